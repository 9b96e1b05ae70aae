/-! things laid to twos (reference) -/
def layT (A : Tn) (m : Nat) (L : List Nat) (way : Nat) : Tn := fun f t => if f = 7 ∧ t < 24 ∧ m.testBit t = true then L.getD (dgT m L.length way t) 0 / 16 else if f = 8 ∧ t < 24 ∧ m.testBit t = true then L.getD (dgT m L.length way t) 0 % 16 else A f t
theorem layT_f {A : Tn} {m : Nat} {L : List Nat} {way f : Nat} (h7 : f ≠ 7) (h8 : f ≠ 8) : layT A m L way f = A f := by
  funext t
  unfold layT
  rw [if_neg (by omega), if_neg (by omega)]
theorem layT_7 {A : Tn} {m : Nat} {L : List Nat} {way t : Nat} (ht : t < 24) (c : m.testBit t = true) : layT A m L way 7 t = L.getD (dgT m L.length way t) 0 / 16 := by
  unfold layT
  rw [if_pos ⟨rfl, ht, c⟩]
theorem layT_8 {A : Tn} {m : Nat} {L : List Nat} {way t : Nat} (ht : t < 24) (c : m.testBit t = true) : layT A m L way 8 t = L.getD (dgT m L.length way t) 0 % 16 := by
  unfold layT
  rw [if_neg (by omega), if_pos ⟨rfl, ht, c⟩]
theorem layT_o {A : Tn} {m : Nat} {L : List Nat} {way f t : Nat} (c : ¬ m.testBit t = true) : layT A m L way f t = A f t := by
  unfold layT
  rw [if_neg (fun q => c q.2.2), if_neg (fun q => c q.2.2)]
theorem layT_T {A : Tn} {m : Nat} {L : List Nat} {way way' : Nat} : layT (layT A m L way') m L way = layT A m L way := by
  funext f t
  unfold layT
  by_cases c7 : f = 7 ∧ t < 24 ∧ m.testBit t = true
  · simp only [if_pos c7]
  · simp only [if_neg c7]
    by_cases c8 : f = 8 ∧ t < 24 ∧ m.testBit t = true
    · simp only [if_pos c8]
    · simp only [if_neg c8]
theorem dg_lt {m n way t : Nat} (hn : 1 ≤ n) : dgT m n way t < n := Nat.mod_lt _ (by omega)
theorem getD_mem {L : List Nat} {i : Nat} (hi : i < L.length) : L.getD i 0 ∈ L := by
  rw [List.getD_eq_getElem?_getD, List.getElem?_eq_getElem hi]
  exact List.getElem_mem hi
theorem layT_W {A : Tn} {m : Nat} {L : List Nat} {way : Nat} (hw : WF A) (hn : 1 ≤ L.length) (hL : ∀ x, x ∈ L → x / 16 < x % 16 ∧ x % 16 < 12 ∧ A 2 (x / 16) = 1 ∧ A 2 (x % 16) = 1) : WF (layT A m L way) := by
  have hT := hw.th
  have hP := hw.pe
  refine hw.own (fun f i h7 h8 => by rw [layT_f h7 h8]) (fun t ht => ?_) (fun t ht => ?_)
  · have hx := hL _ (getD_mem (i := dgT m L.length way t) (dg_lt hn))
    have h0 := hw.t ht
    by_cases c : m.testBit t = true
    · rw [layT_7 (by omega) c, layT_8 (by omega) c]
      have p1 := hw.lvp (p := L.getD (dgT m L.length way t) 0 / 16) (by omega) hx.2.2.1
      have p2 := hw.lvp (p := L.getD (dgT m L.length way t) 0 % 16) (by omega) hx.2.2.2
      exact ⟨p1, p2, by omega, hx.2.2.1, hx.2.2.2⟩
    · rw [layT_o c, layT_o c]
      exact ⟨h0.1, h0.2.1, h0.2.2.1, h0.2.2.2.2.1, h0.2.2.2.2.2⟩
  · have hx := hL _ (getD_mem (i := dgT m L.length way t) (dg_lt hn))
    have h0 := hw.o ht
    unfold layT
    refine ⟨?_, ?_⟩
    · split
      · omega
      · rw [if_neg (by omega)]; exact h0.1
    · rw [if_neg (by omega)]
      split
      · omega
      · exact h0.2
theorem stT_lay {A : Tn} {m : Nat} {L : List Nat} {way t o p : Nat} : stT (layT A m L way) t o p = stT A t o p := by
  have e : ∀ f, f ≠ 7 → f ≠ 8 → layT A m L way f = A f := fun f h7 h8 => layT_f h7 h8
  unfold stT
  rw [e 0 (by decide) (by decide)]
  apply bN_congr
  intro w _
  unfold stP st0
  rw [e 11 (by decide) (by decide), e 5 (by decide) (by decide), e 10 (by decide) (by decide), e 14 (by decide) (by decide)]
theorem stW_lay {A : Tn} {m : Nat} {L : List Nat} {way : Nat} (hT : A 0 1 ≤ 24) (hm : m < 2 ^ A 0 1) : stW (layT A m L way) 0 = stW A m ||| siw A m L way := by
  have e0 : layT A m L way 0 = A 0 := layT_f (by decide) (by decide)
  have cT := ctp_T hm hT
  apply Nat.eq_of_testBit_eq
  intro w
  rw [Nat.testBit_or, Bool.eq_iff_iff, Bool.or_eq_true]
  unfold stW siw
  rw [orN_bit, orN_bit, orN_bit, e0]
  simp only [decide_eq_true_eq, Nat.zero_testBit, Bool.false_eq_true, if_false, stT_lay]
  constructor
  · rintro ⟨t, ht, hb⟩
    by_cases c : m.testBit t = true
    · right
      have g4 : ctp m (t + 1) = ctp m t + 1 := by rw [ctp_s, if_pos c]
      have g5 : ctp m (t + 1) ≤ ctp m 24 := ct_mo _ (by omega)
      refine ⟨ctp m 24 - 1 - ctp m t, by omega, ?_⟩
      rw [show ctp m 24 - 1 - (ctp m 24 - 1 - ctp m t) = ctp m t by omega]
      unfold sbB
      rw [th_rk (by omega) c]
      unfold layT at hb
      rw [if_pos ⟨rfl, by omega, c⟩, if_neg (by omega), if_pos ⟨rfl, by omega, c⟩] at hb
      exact hb
    · left
      refine ⟨t, ht, ?_⟩
      rw [if_neg c]
      unfold layT at hb
      rw [if_neg (fun q => c q.2.2), if_neg (fun q => c q.2.2), if_neg (fun q => c q.2.2), if_neg (fun q => c q.2.2)] at hb
      exact hb
  · rintro (⟨t, ht, hb⟩ | ⟨j, hj, hb⟩)
    · refine ⟨t, ht, ?_⟩
      by_cases c : m.testBit t = true
      · rw [if_pos c, Nat.zero_testBit] at hb; cases hb
      · rw [if_neg c] at hb
        unfold layT
        rw [if_neg (fun q => c q.2.2), if_neg (fun q => c q.2.2), if_neg (fun q => c q.2.2), if_neg (fun q => c q.2.2)]
        exact hb
    · obtain ⟨t, h1, h2, h3⟩ := ct_nth (P := fun i => m.testBit i) (n := A 0 1) (k := ctp m 24 - 1 - j) (by show _ < ctp m (A 0 1); omega)
      have h3' : ctp m t = ctp m 24 - 1 - j := h3
      refine ⟨t, h1, ?_⟩
      unfold sbB at hb
      rw [← h3', th_rk (by omega) h2] at hb
      unfold layT
      rw [if_pos ⟨rfl, by omega, h2⟩, if_neg (by omega), if_pos ⟨rfl, by omega, h2⟩]
      unfold dgT
      rw [show ctp m 24 - 1 - ctp m t = j by omega]
      exact hb
/-- the first things from above are laid -/
def layP (A : Tn) (m : Nat) (L : List Nat) (way j : Nat) : Tn := fun f t => if t + j < 24 then A f t else layT A m L way f t
theorem m_lays {S : Sto} {A : Tn} {m way : Nat} {L : List Nat} (h : RepM S A) (hs : PmS S L) (hm : m < 2 ^ 24) (hn1 : 1 ≤ L.length) (hn6 : L.length ≤ 6) (hL : ∀ x, x ∈ L → x < 200) (hwy : way < 2 ^ 31) : ∃ S', call 240 0 [vR 50 0, vI (nI m), vI (nI L.length), vI (nI way)] S = some (none, S') ∧ Fr (pL [58, 59]) S S' ∧ RepM S' (layT A m L way) := by
  show ∃ S', run 240 0 0 [vR 50 0, vI (nI m), vI (nI L.length), vI (nI way), vU, vU] [] S = _ ∧ _
  simp (disch := omega) only [s240_0, s240_1, s240_3, s240_5, s240_9, s240_12, s240_13, s240_15, s240_18, s240_21, s240_22, s240_25, s240_27, s240_28, s240_31, s240_33, s240_34, s240_35, s240_36, s240_37, s240_38, s240_41, s240_43, s240_44, s240_47, s240_49, s240_50, s240_51, s240_52, s240_53, s240_55, s240_56, s240_57, s240_59, s240_62, s240_65, q_0, q_1, q_2, q_3, q_4, q_5, q_6, q_7, q_8, q_9, q_10, q_11, q_12, q_13, q_14, q_16, q_20, q_23, q_24, q_32, q_42, q_43, q_45, q_47, q_48, q_50, q_57, q_59, q_60, q_61, q_62, q_63, q_64, q_66, q_91, q_93, q_97, q_99, q_122, q_144, q_255, q_256, q_300, q_380, q_400, q_620, q_999, q_1000, q_4095, q_4096, q_9999, q_65536, q_99999, q_31, nI_add, pk_mul, nE, nL, nT, nM31, nShl, ib_nI, nI_clamp, bI_n0, bI_n1, bI_nar, uI_r, uI_l, uL_r, uL_i, uL_p, uA_r, uA_l, bV_some, bU_some, nar_n0, nar_n1, and_self, and_true, true_and, and_false, false_and, if_true, if_false, eq_self, Bool.false_eq_true, Bool.true_eq_false, not_true_eq_false, not_false_eq_true, ↓reduceIte, nlT, nlF, ntT, ntF, neT, neF, ieT, ieF, decide_true, decide_false, Bool.not_true, Bool.not_false, Bool.and_true, Bool.true_and, Bool.and_false, Bool.false_and, Bool.or_true, Bool.true_or, Bool.or_false, Bool.false_or]
  have e0 : way / L.length ^ (ctp m 24 - ctp m (24 - 0)) = way := by rw [Nat.sub_zero, Nat.sub_self, Nat.pow_zero, Nat.div_one]
  have key := upS (σ := Sto) (I := fun j S1 => Fr (pL [58, 59]) S S1 ∧ RepM S1 (layP A m L way j)) (F := fun j S1 => run 240 0 7 [vR 50 0, vI (nI m), vI (nI L.length), vI (nI way), vI (nI (way / L.length ^ (ctp m 24 - ctp m (24 - j)))), vI (nI (24 - j) - nI 1)] [] S1) (Q := fun z => ∃ S', z = some (none, S') ∧ Fr (pL [58, 59]) S S' ∧ RepM S' (layT A m L way)) (N := 24) ?_ ?_ 0 S (by omega) ⟨Fr.rfl', ?_⟩
  · simp only [e0] at key
    exact key
  · intro j S1 hj hI
    obtain ⟨i1, i2⟩ := hI
    have hq : way / L.length ^ (ctp m 24 - ctp m (24 - j)) < 2 ^ 31 := Nat.lt_of_le_of_lt (Nat.div_le_self _ _) hwy
    have e1 : nI (24 - j) - nI 1 = nI (23 - j) := by
      rw [nSub (by omega)]
      congr 1
      omega
    have e2 : nI (23 - j) + (-nI 1) = nI (24 - (j + 1)) - nI 1 := by
      rw [show 24 - (j + 1) = 23 - j by omega, Int32.sub_eq_add_neg]
    have e3 : ctp m (24 - j) = ctp m (23 - j) + if m.testBit (23 - j) = true then 1 else 0 := by
      rw [show 24 - j = 23 - j + 1 by omega]
      exact ctp_s m (23 - j)
    have e4 : ctp m (24 - j) ≤ ctp m 24 := ct_mo _ (by omega)
    refine Or.inr ?_
    show ∃ s', _ ∧ run 240 0 7 _ _ _ = run 240 0 7 _ _ _
    rw [s240_7, e1]
    cases c1 : m.testBit (23 - j) with
    | false =>
      rw [c1] at e3
      simp only [Bool.false_eq_true, if_false, Nat.add_zero] at e3
      refine ⟨S1, ⟨i1, i2.ext ?_⟩, ?_⟩
      · funext f t
        unfold layP
        by_cases c : t + j < 24
        · rw [if_pos c]
          by_cases c2 : t + (j + 1) < 24
          · rw [if_pos c2]
          · have e : t = 23 - j := by omega
            rw [if_neg c2, e]
            unfold layT
            rw [if_neg (by rw [c1]; simp), if_neg (by rw [c1]; simp)]
        · rw [if_neg c, if_neg (by omega)]
      · rw [e3, show 24 - (j + 1) = 23 - j by omega]
        simp (disch := omega) only [s240_0, s240_1, s240_3, s240_5, s240_9, s240_12, s240_13, s240_15, s240_18, s240_21, s240_22, s240_25, s240_27, s240_28, s240_31, s240_33, s240_34, s240_35, s240_36, s240_37, s240_38, s240_41, s240_43, s240_44, s240_47, s240_49, s240_50, s240_51, s240_52, s240_53, s240_55, s240_56, s240_57, s240_59, s240_62, s240_65, q_0, q_1, q_2, q_3, q_4, q_5, q_6, q_7, q_8, q_9, q_10, q_11, q_12, q_13, q_14, q_16, q_20, q_23, q_24, q_32, q_42, q_43, q_45, q_47, q_48, q_50, q_57, q_59, q_60, q_61, q_62, q_63, q_64, q_66, q_91, q_93, q_97, q_99, q_122, q_144, q_255, q_256, q_300, q_380, q_400, q_620, q_999, q_1000, q_4095, q_4096, q_9999, q_65536, q_99999, q_31, nI_add, pk_mul, nE, nL, nT, nM31, nShl, ib_nI, nI_clamp, bI_n0, bI_n1, bI_nar, uI_r, uI_l, uL_r, uL_i, uL_p, uA_r, uA_l, bV_some, bU_some, nar_n0, nar_n1, and_self, and_true, true_and, and_false, false_and, if_true, if_false, eq_self, Bool.false_eq_true, Bool.true_eq_false, not_true_eq_false, not_false_eq_true, ↓reduceIte, nlT, nlF, ntT, ntF, neT, neF, ieT, ieF, decide_true, decide_false, Bool.not_true, Bool.not_false, Bool.and_true, Bool.true_and, Bool.and_false, Bool.false_and, Bool.or_true, Bool.true_or, Bool.or_false, Bool.false_or, m_has, c1, e2]
        rw [show 24 - (j + 1) = 23 - j by omega]
    | true =>
      rw [c1] at e3
      simp only [if_true] at e3
      have ed : dgT m L.length way (23 - j) = way / L.length ^ (ctp m 24 - ctp m (24 - j)) % L.length := by
        unfold dgT
        rw [show ctp m 24 - 1 - ctp m (23 - j) = ctp m 24 - ctp m (24 - j) by omega]
      have hdl := dg_lt (m := m) (way := way) (t := 23 - j) hn1
      have r1 : S1.1 90 0 (dgT m L.length way (23 - j)) = nI (L.getD (dgT m L.length way (23 - j)) 0 / 16) := by rw [i1.i rfl]; exact (hs _ hdl).1
      have r2 : S1.1 91 0 (dgT m L.length way (23 - j)) = nI (L.getD (dgT m L.length way (23 - j)) 0 % 16) := by rw [i1.i rfl]; exact (hs _ hdl).2
      have e5 : way / L.length ^ (ctp m 24 - ctp m (23 - j)) = way / L.length ^ (ctp m 24 - ctp m (24 - j)) / L.length := by
        rw [show ctp m 24 - ctp m (23 - j) = (ctp m 24 - ctp m (24 - j)) + 1 by omega, Nat.pow_succ, Nat.div_div_eq_div_mul]
      refine ⟨uI (uI S1 58 0 (23 - j) (nI (L.getD (dgT m L.length way (23 - j)) 0 / 16))) 59 0 (23 - j) (nI (L.getD (dgT m L.length way (23 - j)) 0 % 16)), ⟨(i1.uI rfl).uI rfl, ?_⟩, ?_⟩
      · refine ((i2.set (t := 58) (f := 7) (i := 23 - j) (L.getD (dgT m L.length way (23 - j)) 0 / 16) rfl rfl).set (t := 59) (f := 8) (i := 23 - j) (L.getD (dgT m L.length way (23 - j)) 0 % 16) rfl rfl).ext ?_
        funext f t
        rw [uT_r, uT_r]
        unfold layP
        by_cases c2 : t + (j + 1) < 24
        · rw [if_neg (by omega), if_neg (by omega), if_pos (by omega), if_pos c2]
        · rw [if_neg c2]
          by_cases c : t = 23 - j
          · unfold layT
            by_cases c8 : f = 8
            · rw [if_pos ⟨c8, c⟩, if_neg (by omega), if_pos ⟨c8, by omega, by rw [c]; exact c1⟩, c]
            · rw [if_neg (by omega)]
              by_cases c7 : f = 7
              · rw [if_pos ⟨c7, c⟩, if_pos ⟨c7, by omega, by rw [c]; exact c1⟩, c]
              · rw [if_neg (by omega), if_pos (by omega), if_neg (by omega), if_neg (by omega)]
          · rw [if_neg (by omega), if_neg (by omega), if_neg (by omega)]
      · rw [show 24 - (j + 1) = 23 - j by omega, e5]
        rw [ed] at r1 r2 hdl ⊢
        simp (disch := omega) only [s240_0, s240_1, s240_3, s240_5, s240_9, s240_12, s240_13, s240_15, s240_18, s240_21, s240_22, s240_25, s240_27, s240_28, s240_31, s240_33, s240_34, s240_35, s240_36, s240_37, s240_38, s240_41, s240_43, s240_44, s240_47, s240_49, s240_50, s240_51, s240_52, s240_53, s240_55, s240_56, s240_57, s240_59, s240_62, s240_65, q_0, q_1, q_2, q_3, q_4, q_5, q_6, q_7, q_8, q_9, q_10, q_11, q_12, q_13, q_14, q_16, q_20, q_23, q_24, q_32, q_42, q_43, q_45, q_47, q_48, q_50, q_57, q_59, q_60, q_61, q_62, q_63, q_64, q_66, q_91, q_93, q_97, q_99, q_122, q_144, q_255, q_256, q_300, q_380, q_400, q_620, q_999, q_1000, q_4095, q_4096, q_9999, q_65536, q_99999, q_31, nI_add, pk_mul, nE, nL, nT, nM31, nShl, ib_nI, nI_clamp, bI_n0, bI_n1, bI_nar, uI_r, uI_l, uL_r, uL_i, uL_p, uA_r, uA_l, bV_some, bU_some, nar_n0, nar_n1, and_self, and_true, true_and, and_false, false_and, if_true, if_false, eq_self, Bool.false_eq_true, Bool.true_eq_false, not_true_eq_false, not_false_eq_true, ↓reduceIte, nlT, nlF, ntT, ntF, neT, neF, ieT, ieF, decide_true, decide_false, Bool.not_true, Bool.not_false, Bool.and_true, Bool.true_and, Bool.and_false, Bool.false_and, Bool.or_true, Bool.true_or, Bool.or_false, Bool.false_or, m_has, c1, nDiv, nRm, uI_r, r1, r2, e2]
        rw [show 24 - (j + 1) = 23 - j by omega]
  · intro S1 hI
    obtain ⟨i1, i2⟩ := hI
    have e1 : (nI (24 - 24) - nI 1 : Int32) = -nI 1 := by decide
    have e2 : (-nI 1 < nI 0) = True := by decide
    show ∃ S', run 240 0 7 _ _ _ = _ ∧ _
    rw [s240_7, e1]
    simp (disch := omega) only [s240_0, s240_1, s240_3, s240_5, s240_9, s240_12, s240_13, s240_15, s240_18, s240_21, s240_22, s240_25, s240_27, s240_28, s240_31, s240_33, s240_34, s240_35, s240_36, s240_37, s240_38, s240_41, s240_43, s240_44, s240_47, s240_49, s240_50, s240_51, s240_52, s240_53, s240_55, s240_56, s240_57, s240_59, s240_62, s240_65, q_0, q_1, q_2, q_3, q_4, q_5, q_6, q_7, q_8, q_9, q_10, q_11, q_12, q_13, q_14, q_16, q_20, q_23, q_24, q_32, q_42, q_43, q_45, q_47, q_48, q_50, q_57, q_59, q_60, q_61, q_62, q_63, q_64, q_66, q_91, q_93, q_97, q_99, q_122, q_144, q_255, q_256, q_300, q_380, q_400, q_620, q_999, q_1000, q_4095, q_4096, q_9999, q_65536, q_99999, q_31, nI_add, pk_mul, nE, nL, nT, nM31, nShl, ib_nI, nI_clamp, bI_n0, bI_n1, bI_nar, uI_r, uI_l, uL_r, uL_i, uL_p, uA_r, uA_l, bV_some, bU_some, nar_n0, nar_n1, and_self, and_true, true_and, and_false, false_and, if_true, if_false, eq_self, Bool.false_eq_true, Bool.true_eq_false, not_true_eq_false, not_false_eq_true, ↓reduceIte, nlT, nlF, ntT, ntF, neT, neF, ieT, ieF, decide_true, decide_false, Bool.not_true, Bool.not_false, Bool.and_true, Bool.true_and, Bool.and_false, Bool.false_and, Bool.or_true, Bool.true_or, Bool.or_false, Bool.false_or, e2]
    refine ⟨_, rfl, i1, i2.ext ?_⟩
    funext f t
    unfold layP
    rw [if_neg (by omega)]
  · intro f i hf hi
    have : i < 24 ∨ 24 ≤ i := by omega
    show S.1 (51 + f) 0 i = dcA f (layP A m L way 0 f i)
    unfold layP
    rcases this with c | c
    · rw [if_pos (by omega)]
      exact h f i hf hi
    · rw [if_neg (by omega)]
      unfold layT
      rw [if_neg (by omega), if_neg (by omega)]
      exact h f i hf hi
theorem m_isGroup {S : Sto} {A : Tn} (h : RepM S A) (hw : WF A) (x : Int32) {lo hi : Nat} (hlo : lo < 64) (hhi : hi < 64) : call 229 0 [vR 50 0, vI x, vI (nI lo), vI (nI hi)] S = some (some (vI (bI (stB x (A 0 0) lo hi))), S) := by
  have hP := hw.pe
  have hP2 : 2 ^ A 0 0 ≤ 2 ^ 12 := Nat.pow_le_pow_right (by decide) hP
  show run 229 0 0 [vR 50 0, vI x, vI (nI lo), vI (nI hi)] [] S = _
  by_cases c : x < nI 0
  · have f2 : stB x (A 0 0) lo hi = false := by
      cases q : stB x (A 0 0) lo hi with
      | false => rfl
      | true =>
        obtain ⟨m, hm, rfl, m1, m2, m3⟩ := stB_t (by omega) q
        rw [nT (by omega) (by decide)] at c
        omega
    simp (disch := omega) only [s229_0, s229_1, s229_4, s229_5, s229_6, s229_9, s229_10, s229_11, s229_12, s229_15, s229_16, s229_19, s229_20, s229_21, s229_22, s229_23, s229_24, s229_27, s229_30, s229_31, s229_34, s229_35, q_0, q_1, q_2, q_3, q_4, q_5, q_6, q_7, q_8, q_9, q_10, q_11, q_12, q_13, q_14, q_16, q_20, q_23, q_24, q_32, q_42, q_43, q_45, q_47, q_48, q_50, q_57, q_59, q_60, q_61, q_62, q_63, q_64, q_66, q_91, q_93, q_97, q_99, q_122, q_144, q_255, q_256, q_300, q_380, q_400, q_620, q_999, q_1000, q_4095, q_4096, q_9999, q_65536, q_99999, q_31, nI_add, pk_mul, nE, nL, nT, nM31, nShl, ib_nI, nI_clamp, bI_n0, bI_n1, bI_nar, uI_r, uI_l, uL_r, uL_i, uL_p, uA_r, uA_l, bV_some, bU_some, nar_n0, nar_n1, and_self, and_true, true_and, and_false, false_and, if_true, if_false, eq_self, Bool.false_eq_true, Bool.true_eq_false, not_true_eq_false, not_false_eq_true, ↓reduceIte, nlT, nlF, ntT, ntF, neT, neF, ieT, ieF, decide_true, decide_false, Bool.not_true, Bool.not_false, Bool.and_true, Bool.true_and, Bool.and_false, Bool.false_and, Bool.or_true, Bool.true_or, Bool.or_false, Bool.false_or, c, f2]
    rfl
  · obtain ⟨m, hm, rfl⟩ := nI_of (x := x) c
    have hp := pop_le m
    have h3 : m / 2 ^ A 0 0 = 0 ↔ m < 2 ^ A 0 0 := by
      rw [Nat.div_eq_zero_iff]
      have := Nat.two_pow_pos (A 0 0)
      omega
    have h4 : m / 2 ^ A 0 0 < 2 ^ 31 := Nat.lt_of_le_of_lt (Nat.div_le_self _ _) hm
    have h5 : stB (nI m) (A 0 0) lo hi = (decide (m < 2 ^ A 0 0) && decide (lo ≤ pop m) && decide (pop m ≤ hi)) := by
      unfold stB
      rw [lsB_n hm (by omega), nI_clamp hm]
    have e6 := m_inI S (nI (pop m)) (nI lo) (nI hi) rfl rfl
    rw [h5]
    by_cases g1 : m < 2 ^ A 0 0
    · have g2 := h3.mpr g1
      by_cases g3 : lo ≤ pop m
      · by_cases g4 : pop m ≤ hi
        · simp (disch := omega) only [s229_0, s229_1, s229_4, s229_5, s229_6, s229_9, s229_10, s229_11, s229_12, s229_15, s229_16, s229_19, s229_20, s229_21, s229_22, s229_23, s229_24, s229_27, s229_30, s229_31, s229_34, s229_35, q_0, q_1, q_2, q_3, q_4, q_5, q_6, q_7, q_8, q_9, q_10, q_11, q_12, q_13, q_14, q_16, q_20, q_23, q_24, q_32, q_42, q_43, q_45, q_47, q_48, q_50, q_57, q_59, q_60, q_61, q_62, q_63, q_64, q_66, q_91, q_93, q_97, q_99, q_122, q_144, q_255, q_256, q_300, q_380, q_400, q_620, q_999, q_1000, q_4095, q_4096, q_9999, q_65536, q_99999, q_31, nI_add, pk_mul, nE, nL, nT, nM31, nShl, ib_nI, nI_clamp, bI_n0, bI_n1, bI_nar, uI_r, uI_l, uL_r, uL_i, uL_p, uA_r, uA_l, bV_some, bU_some, nar_n0, nar_n1, and_self, and_true, true_and, and_false, false_and, if_true, if_false, eq_self, Bool.false_eq_true, Bool.true_eq_false, not_true_eq_false, not_false_eq_true, ↓reduceIte, nlT, nlF, ntT, ntF, neT, neF, ieT, ieF, decide_true, decide_false, Bool.not_true, Bool.not_false, Bool.and_true, Bool.true_and, Bool.and_false, Bool.false_and, Bool.or_true, Bool.true_or, Bool.or_false, Bool.false_or, h.sc, c, nShr, g2, m_bits, e6, g1]
          rfl
        · simp (disch := omega) only [s229_0, s229_1, s229_4, s229_5, s229_6, s229_9, s229_10, s229_11, s229_12, s229_15, s229_16, s229_19, s229_20, s229_21, s229_22, s229_23, s229_24, s229_27, s229_30, s229_31, s229_34, s229_35, q_0, q_1, q_2, q_3, q_4, q_5, q_6, q_7, q_8, q_9, q_10, q_11, q_12, q_13, q_14, q_16, q_20, q_23, q_24, q_32, q_42, q_43, q_45, q_47, q_48, q_50, q_57, q_59, q_60, q_61, q_62, q_63, q_64, q_66, q_91, q_93, q_97, q_99, q_122, q_144, q_255, q_256, q_300, q_380, q_400, q_620, q_999, q_1000, q_4095, q_4096, q_9999, q_65536, q_99999, q_31, nI_add, pk_mul, nE, nL, nT, nM31, nShl, ib_nI, nI_clamp, bI_n0, bI_n1, bI_nar, uI_r, uI_l, uL_r, uL_i, uL_p, uA_r, uA_l, bV_some, bU_some, nar_n0, nar_n1, and_self, and_true, true_and, and_false, false_and, if_true, if_false, eq_self, Bool.false_eq_true, Bool.true_eq_false, not_true_eq_false, not_false_eq_true, ↓reduceIte, nlT, nlF, ntT, ntF, neT, neF, ieT, ieF, decide_true, decide_false, Bool.not_true, Bool.not_false, Bool.and_true, Bool.true_and, Bool.and_false, Bool.false_and, Bool.or_true, Bool.true_or, Bool.or_false, Bool.false_or, h.sc, c, nShr, g2, m_bits, e6, g1]
          rfl
      · simp (disch := omega) only [s229_0, s229_1, s229_4, s229_5, s229_6, s229_9, s229_10, s229_11, s229_12, s229_15, s229_16, s229_19, s229_20, s229_21, s229_22, s229_23, s229_24, s229_27, s229_30, s229_31, s229_34, s229_35, q_0, q_1, q_2, q_3, q_4, q_5, q_6, q_7, q_8, q_9, q_10, q_11, q_12, q_13, q_14, q_16, q_20, q_23, q_24, q_32, q_42, q_43, q_45, q_47, q_48, q_50, q_57, q_59, q_60, q_61, q_62, q_63, q_64, q_66, q_91, q_93, q_97, q_99, q_122, q_144, q_255, q_256, q_300, q_380, q_400, q_620, q_999, q_1000, q_4095, q_4096, q_9999, q_65536, q_99999, q_31, nI_add, pk_mul, nE, nL, nT, nM31, nShl, ib_nI, nI_clamp, bI_n0, bI_n1, bI_nar, uI_r, uI_l, uL_r, uL_i, uL_p, uA_r, uA_l, bV_some, bU_some, nar_n0, nar_n1, and_self, and_true, true_and, and_false, false_and, if_true, if_false, eq_self, Bool.false_eq_true, Bool.true_eq_false, not_true_eq_false, not_false_eq_true, ↓reduceIte, nlT, nlF, ntT, ntF, neT, neF, ieT, ieF, decide_true, decide_false, Bool.not_true, Bool.not_false, Bool.and_true, Bool.true_and, Bool.and_false, Bool.false_and, Bool.or_true, Bool.true_or, Bool.or_false, Bool.false_or, h.sc, c, nShr, g2, m_bits, e6, g1]
        rfl
    · have g2 : ¬ m / 2 ^ A 0 0 = 0 := fun q => g1 (h3.mp q)
      simp (disch := omega) only [s229_0, s229_1, s229_4, s229_5, s229_6, s229_9, s229_10, s229_11, s229_12, s229_15, s229_16, s229_19, s229_20, s229_21, s229_22, s229_23, s229_24, s229_27, s229_30, s229_31, s229_34, s229_35, q_0, q_1, q_2, q_3, q_4, q_5, q_6, q_7, q_8, q_9, q_10, q_11, q_12, q_13, q_14, q_16, q_20, q_23, q_24, q_32, q_42, q_43, q_45, q_47, q_48, q_50, q_57, q_59, q_60, q_61, q_62, q_63, q_64, q_66, q_91, q_93, q_97, q_99, q_122, q_144, q_255, q_256, q_300, q_380, q_400, q_620, q_999, q_1000, q_4095, q_4096, q_9999, q_65536, q_99999, q_31, nI_add, pk_mul, nE, nL, nT, nM31, nShl, ib_nI, nI_clamp, bI_n0, bI_n1, bI_nar, uI_r, uI_l, uL_r, uL_i, uL_p, uA_r, uA_l, bV_some, bU_some, nar_n0, nar_n1, and_self, and_true, true_and, and_false, false_and, if_true, if_false, eq_self, Bool.false_eq_true, Bool.true_eq_false, not_true_eq_false, not_false_eq_true, ↓reduceIte, nlT, nlF, ntT, ntF, neT, neF, ieT, ieF, decide_true, decide_false, Bool.not_true, Bool.not_false, Bool.and_true, Bool.true_and, Bool.and_false, Bool.false_and, Bool.or_true, Bool.true_or, Bool.or_false, Bool.false_or, h.sc, c, nShr, g2, g1]
      rfl
def alP (A : Tn) (p o : Nat) : Bool := p.testBit o && !(A 2 o == 1)
theorem m_allLive {S : Sto} {A : Tn} {p : Nat} (h : RepM S A) (hw : WF A) (hp : p < 2 ^ 31) : call 238 0 [vR 50 0, vI (nI p)] S = some (some (vI (bI (!ex (alP A p) 12))), S) := by
  show run 238 0 0 [vR 50 0, vI (nI p), vU, vU] [] S = _
  simp only [s238_0, s238_1, s238_2, s238_3]
  refine up_ (F := fun i => run 238 0 4 [vR 50 0, vI (nI p), vI (bI (!ex (alP A p) i)), vI (nI i)] [] S) (N := 12) ?_ ?_ 0 (by omega)
  · intro i hi
    have hl := hw.lv hi
    show run 238 0 4 _ _ _ = run 238 0 4 _ _ _
    rw [s238_4, ex_s]
    cases c0 : ex (alP A p) i with
    | true =>
      simp (disch := omega) only [s238_0, s238_1, s238_2, s238_3, s238_5, s238_7, s238_10, s238_11, s238_14, s238_15, s238_16, s238_19, s238_22, s238_23, s238_26, s238_27, s238_28, s238_29, s238_32, s238_33, s238_36, s238_37, s238_38, s238_41, s238_44, s238_45, q_0, q_1, q_2, q_3, q_4, q_5, q_6, q_7, q_8, q_9, q_10, q_11, q_12, q_13, q_14, q_16, q_20, q_23, q_24, q_32, q_42, q_43, q_45, q_47, q_48, q_50, q_57, q_59, q_60, q_61, q_62, q_63, q_64, q_66, q_91, q_93, q_97, q_99, q_122, q_144, q_255, q_256, q_300, q_380, q_400, q_620, q_999, q_1000, q_4095, q_4096, q_9999, q_65536, q_99999, q_31, nI_add, pk_mul, nE, nL, nT, nM31, nShl, ib_nI, nI_clamp, bI_n0, bI_n1, bI_nar, uI_r, uI_l, uL_r, uL_i, uL_p, uA_r, uA_l, bV_some, bU_some, nar_n0, nar_n1, and_self, and_true, true_and, and_false, false_and, if_true, if_false, eq_self, Bool.false_eq_true, Bool.true_eq_false, not_true_eq_false, not_false_eq_true, ↓reduceIte, nlT, nlF, ntT, ntF, neT, neF, ieT, ieF, decide_true, decide_false, Bool.not_true, Bool.not_false, Bool.and_true, Bool.true_and, Bool.and_false, Bool.false_and, Bool.or_true, Bool.true_or, Bool.or_false, Bool.false_or]
      rfl
    | false =>
      cases c1 : p.testBit i with
      | false =>
        have e : alP A p i = false := by simp [alP, c1]
        simp (disch := omega) only [s238_0, s238_1, s238_2, s238_3, s238_5, s238_7, s238_10, s238_11, s238_14, s238_15, s238_16, s238_19, s238_22, s238_23, s238_26, s238_27, s238_28, s238_29, s238_32, s238_33, s238_36, s238_37, s238_38, s238_41, s238_44, s238_45, q_0, q_1, q_2, q_3, q_4, q_5, q_6, q_7, q_8, q_9, q_10, q_11, q_12, q_13, q_14, q_16, q_20, q_23, q_24, q_32, q_42, q_43, q_45, q_47, q_48, q_50, q_57, q_59, q_60, q_61, q_62, q_63, q_64, q_66, q_91, q_93, q_97, q_99, q_122, q_144, q_255, q_256, q_300, q_380, q_400, q_620, q_999, q_1000, q_4095, q_4096, q_9999, q_65536, q_99999, q_31, nI_add, pk_mul, nE, nL, nT, nM31, nShl, ib_nI, nI_clamp, bI_n0, bI_n1, bI_nar, uI_r, uI_l, uL_r, uL_i, uL_p, uA_r, uA_l, bV_some, bU_some, nar_n0, nar_n1, and_self, and_true, true_and, and_false, false_and, if_true, if_false, eq_self, Bool.false_eq_true, Bool.true_eq_false, not_true_eq_false, not_false_eq_true, ↓reduceIte, nlT, nlF, ntT, ntF, neT, neF, ieT, ieF, decide_true, decide_false, Bool.not_true, Bool.not_false, Bool.and_true, Bool.true_and, Bool.and_false, Bool.false_and, Bool.or_true, Bool.true_or, Bool.or_false, Bool.false_or, m_has, c1, e]
        rfl
      | true =>
        by_cases c2 : A 2 i = 1
        · have e : alP A p i = false := by simp [alP, c2]
          simp (disch := omega) only [s238_0, s238_1, s238_2, s238_3, s238_5, s238_7, s238_10, s238_11, s238_14, s238_15, s238_16, s238_19, s238_22, s238_23, s238_26, s238_27, s238_28, s238_29, s238_32, s238_33, s238_36, s238_37, s238_38, s238_41, s238_44, s238_45, q_0, q_1, q_2, q_3, q_4, q_5, q_6, q_7, q_8, q_9, q_10, q_11, q_12, q_13, q_14, q_16, q_20, q_23, q_24, q_32, q_42, q_43, q_45, q_47, q_48, q_50, q_57, q_59, q_60, q_61, q_62, q_63, q_64, q_66, q_91, q_93, q_97, q_99, q_122, q_144, q_255, q_256, q_300, q_380, q_400, q_620, q_999, q_1000, q_4095, q_4096, q_9999, q_65536, q_99999, q_31, nI_add, pk_mul, nE, nL, nT, nM31, nShl, ib_nI, nI_clamp, bI_n0, bI_n1, bI_nar, uI_r, uI_l, uL_r, uL_i, uL_p, uA_r, uA_l, bV_some, bU_some, nar_n0, nar_n1, and_self, and_true, true_and, and_false, false_and, if_true, if_false, eq_self, Bool.false_eq_true, Bool.true_eq_false, not_true_eq_false, not_false_eq_true, ↓reduceIte, nlT, nlF, ntT, ntF, neT, neF, ieT, ieF, decide_true, decide_false, Bool.not_true, Bool.not_false, Bool.and_true, Bool.true_and, Bool.and_false, Bool.false_and, Bool.or_true, Bool.true_or, Bool.or_false, Bool.false_or, m_has, c1, h.lv, c2, e]
          rfl
        · have e : alP A p i = true := by simp [alP, c1, c2]
          simp (disch := omega) only [s238_0, s238_1, s238_2, s238_3, s238_5, s238_7, s238_10, s238_11, s238_14, s238_15, s238_16, s238_19, s238_22, s238_23, s238_26, s238_27, s238_28, s238_29, s238_32, s238_33, s238_36, s238_37, s238_38, s238_41, s238_44, s238_45, q_0, q_1, q_2, q_3, q_4, q_5, q_6, q_7, q_8, q_9, q_10, q_11, q_12, q_13, q_14, q_16, q_20, q_23, q_24, q_32, q_42, q_43, q_45, q_47, q_48, q_50, q_57, q_59, q_60, q_61, q_62, q_63, q_64, q_66, q_91, q_93, q_97, q_99, q_122, q_144, q_255, q_256, q_300, q_380, q_400, q_620, q_999, q_1000, q_4095, q_4096, q_9999, q_65536, q_99999, q_31, nI_add, pk_mul, nE, nL, nT, nM31, nShl, ib_nI, nI_clamp, bI_n0, bI_n1, bI_nar, uI_r, uI_l, uL_r, uL_i, uL_p, uA_r, uA_l, bV_some, bU_some, nar_n0, nar_n1, and_self, and_true, true_and, and_false, false_and, if_true, if_false, eq_self, Bool.false_eq_true, Bool.true_eq_false, not_true_eq_false, not_false_eq_true, ↓reduceIte, nlT, nlF, ntT, ntF, neT, neF, ieT, ieF, decide_true, decide_false, Bool.not_true, Bool.not_false, Bool.and_true, Bool.true_and, Bool.and_false, Bool.false_and, Bool.or_true, Bool.true_or, Bool.or_false, Bool.false_or, m_has, c1, h.lv, c2, e]
          rfl
  · show run 238 0 4 _ _ _ = _
    rw [s238_4]
    simp (disch := omega) only [s238_0, s238_1, s238_2, s238_3, s238_5, s238_7, s238_10, s238_11, s238_14, s238_15, s238_16, s238_19, s238_22, s238_23, s238_26, s238_27, s238_28, s238_29, s238_32, s238_33, s238_36, s238_37, s238_38, s238_41, s238_44, s238_45, q_0, q_1, q_2, q_3, q_4, q_5, q_6, q_7, q_8, q_9, q_10, q_11, q_12, q_13, q_14, q_16, q_20, q_23, q_24, q_32, q_42, q_43, q_45, q_47, q_48, q_50, q_57, q_59, q_60, q_61, q_62, q_63, q_64, q_66, q_91, q_93, q_97, q_99, q_122, q_144, q_255, q_256, q_300, q_380, q_400, q_620, q_999, q_1000, q_4095, q_4096, q_9999, q_65536, q_99999, q_31, nI_add, pk_mul, nE, nL, nT, nM31, nShl, ib_nI, nI_clamp, bI_n0, bI_n1, bI_nar, uI_r, uI_l, uL_r, uL_i, uL_p, uA_r, uA_l, bV_some, bU_some, nar_n0, nar_n1, and_self, and_true, true_and, and_false, false_and, if_true, if_false, eq_self, Bool.false_eq_true, Bool.true_eq_false, not_true_eq_false, not_false_eq_true, ↓reduceIte, nlT, nlF, ntT, ntF, neT, neF, ieT, ieF, decide_true, decide_false, Bool.not_true, Bool.not_false, Bool.and_true, Bool.true_and, Bool.and_false, Bool.false_and, Bool.or_true, Bool.true_or, Bool.or_false, Bool.false_or]
theorem br_allL {A : Tn} {p : Nat} (hp : p < 2 ^ 12) : (!ex (alP A p) 12) = (dif p (livB A) == 0) := by
  rw [Bool.eq_iff_iff, Bool.not_eq_true', beq_iff_eq, dif_0 (by omega)]
  constructor
  · intro h i hi
    by_cases c : i < 12
    · rw [livB_bit A c]
      cases e : (A 2 i == 1) with
      | true => rfl
      | false =>
        have := ex_mono (P := alP A p) c (by simp [alP, hi, e])
        rw [h] at this
        cases this
    · rw [tb_hi hp (i := i) (by omega)] at hi
      cases hi
  · intro h
    cases e : ex (alP A p) 12 with
    | false => rfl
    | true =>
      obtain ⟨k, h1, h2⟩ := ex_t.mp e
      unfold alP at h2
      simp only [Bool.and_eq_true, Bool.not_eq_true'] at h2
      have := h k h2.1
      rw [livB_bit A h1, h2.2] at this
      cases this
