/-! the tape: feed, end -/
abbrev Tp : Type := Nat × (Nat → Nat)
def TpC (S : Sto) (T : Tp) : Prop := S.1 24 0 1 = nI T.1 ∧ ∀ i, i < T.1 → S.1 25 0 i = nI (T.2 i)
def TpM (S : Sto) (T : Tp) : Prop := S.1 50 0 17 = nI T.1 ∧ ∀ i, i < T.1 → S.1 67 0 i = (nI (T.2 i)).toInt8.toInt32
/-- one byte put -/
def tpB (T : Tp) (b : Nat) : Tp := (T.1 + 1, fun i => if i = T.1 then b else T.2 i)
def tp4 (T : Tp) (m : Nat) : Tp := tpB (tpB (tpB (tpB T (m / 2 ^ 24 % 256)) (m / 2 ^ 16 % 256)) (m / 2 ^ 8 % 256)) (m / 2 ^ 0 % 256)
theorem TpC.put {S : Sto} {T : Tp} (h : TpC S T) (b : Nat) : TpC (uI (uI S 24 0 1 (nI (T.1 + 1))) 25 0 T.1 (nI b)) (tpB T b) := by
  refine ⟨?_, fun i hi => ?_⟩
  · rw [uI_r, if_neg (by omega), uI_r, if_pos ⟨rfl, rfl, rfl⟩]; rfl
  · rw [uI_r]
    show _ = nI (if i = T.1 then b else T.2 i)
    by_cases e : i = T.1
    · rw [if_pos ⟨rfl, rfl, e⟩, if_pos e]
    · have hi' : i < T.1 + 1 := hi
      rw [if_neg (by omega), if_neg e, uI_r, if_neg (by omega)]
      exact h.2 i (by omega)
theorem TpM.put {S : Sto} {T : Tp} (h : TpM S T) (b : Nat) {x : Int32} (hx : x = (nI b).toInt8.toInt32) : TpM (uI (uI S 67 0 T.1 x) 50 0 17 (nI (T.1 + 1))) (tpB T b) := by
  refine ⟨?_, fun i hi => ?_⟩
  · rw [uI_r, if_pos ⟨rfl, rfl, rfl⟩]; rfl
  · rw [uI_r, if_neg (by omega), uI_r]
    show _ = (nI (if i = T.1 then b else T.2 i)).toInt8.toInt32
    by_cases e : i = T.1
    · rw [if_pos ⟨rfl, rfl, e⟩, if_pos e, hx]
    · have hi' : i < T.1 + 1 := hi
      rw [if_neg (by omega), if_neg e]
      exact h.2 i (by omega)
theorem nI_m8 {a : Nat} (h : 8 ≤ a) : nI a + -nI 8 = nI (a - 8) := by
  rw [← pk_sub h, Int32.sub_eq_add_neg]
theorem q_255a {m : Nat} (hm : m < 2 ^ 32) : nI m &&& nI 255 = nI (m % 256) := pk_andN hm 8 (by decide)
theorem neg8 : (nI 0 + -nI 8 < nI 0) = True := eq_true (by decide)
theorem nUsh {m i : Nat} (hm : m < 2 ^ 32) (hi : i < 32) : ((nI m).toUInt32 >>> ((nI i).toUInt32 &&& Int32.toUInt32 (nI 31))).toInt32 = nI (m / 2 ^ i) := pk_ushrN hm (nI i) i (us_ok i hi)
theorem divlt {m i : Nat} (hm : m < 2 ^ 32) : m / 2 ^ i < 2 ^ 32 := Nat.lt_of_le_of_lt (Nat.div_le_self _ _) hm
theorem x_put {S : Sto} {T : Tp} (h : TpC S T) {m : Nat} (hm : m < 2 ^ 32) (hT : T.1 + 4 ≤ 400) : ∃ S', call 55 0 [vR 24 0, vI (nI m)] S = some (none, S') ∧ Fr (pL [24, 25]) S S' ∧ TpC S' (tp4 T m) := by
  show ∃ S', run 55 0 0 [vR 24 0, vI (nI m), vU] [] S = _ ∧ _
  have q24 := divlt (i := 24) hm
  have q16 := divlt (i := 16) hm
  have q8 := divlt (i := 8) hm
  have q0 := divlt (i := 0) hm
  have e8 : (-8 : Int32) = -nI 8 := rfl
  simp (disch := omega) only [s55_0, s55_2, s55_4, s55_7, s55_8, s55_11, s55_12, s55_15, s55_16, s55_19, s55_20, s55_23, s55_24, s55_25, s55_28, s55_29, s55_30, s55_31, s55_34, s55_35, s55_36, s55_37, s55_40, s55_41, s55_42, s55_45, s55_48, s55_3, q_0, q_1, q_2, q_3, q_4, q_5, q_6, q_7, q_8, q_9, q_10, q_11, q_12, q_13, q_14, q_16, q_20, q_23, q_24, q_32, q_42, q_43, q_45, q_47, q_48, q_50, q_57, q_59, q_60, q_61, q_62, q_63, q_64, q_66, q_91, q_93, q_97, q_99, q_122, q_144, q_255, q_256, q_300, q_380, q_400, q_620, q_999, q_1000, q_4095, q_4096, q_9999, q_65536, q_99999, q_31, nI_add, pk_mul, nE, nL, nT, nM31, nShl, ib_nI, nI_clamp, bI_n0, bI_n1, bI_nar, uI_r, uI_l, uL_r, uL_i, uL_p, uA_r, uA_l, bV_some, bU_some, nar_n0, nar_n1, and_self, and_true, true_and, and_false, false_and, if_true, if_false, eq_self, Bool.false_eq_true, Bool.true_eq_false, not_true_eq_false, not_false_eq_true, ↓reduceIte, nlT, nlF, ntT, ntF, neT, neF, ieT, ieF, decide_true, decide_false, Bool.not_true, Bool.not_false, Bool.and_true, Bool.true_and, Bool.and_false, Bool.false_and, Bool.or_true, Bool.true_or, Bool.or_false, Bool.false_or, h.1, nI_m8, q_255a, neg8, nUsh, Nat.reduceSub]
  refine ⟨_, rfl, ?_, (((h.put _).put _).put _).put _⟩
  exact (((((((Fr.rfl'.uI rfl).uI rfl).uI rfl).uI rfl).uI rfl).uI rfl).uI rfl).uI rfl
theorem byte_eq {m i : Nat} (hm : m < 2 ^ 32) (hi : i ≤ 24) : (nI m >>> nI i).toInt8.toInt32 = (nI (m / 2 ^ i % 256)).toInt8.toInt32 := by
  congr 1
  apply Int8.toBitVec_inj.1
  have hs : ∀ i, i < 32 → ((nI i).toBitVec.smod 32).toNat = i := by decide +kernel
  show ((nI m >>> nI i).toBitVec).signExtend 8 = ((nI (m / 2 ^ i % 256)).toBitVec).signExtend 8
  rw [Int32.toBitVec_shiftRight]
  apply BitVec.eq_of_getLsbD_eq
  intro k hk
  have e1 : ((nI m).toBitVec.sshiftRight' ((nI i).toBitVec.smod 32)) = (nI m).toBitVec.sshiftRight i := by
    show (nI m).toBitVec.sshiftRight ((nI i).toBitVec.smod 32).toNat = _
    rw [hs i (by omega)]
  rw [e1, BitVec.getLsbD_signExtend, BitVec.getLsbD_signExtend, BitVec.getLsbD_sshiftRight]
  rw [if_pos (show k < 32 by omega), if_pos (show k < 32 by omega), if_pos (show i + k < 32 by omega)]
  have e2 : (nI m).toBitVec.getLsbD (i + k) = m.testBit (i + k) := by
    show (BitVec.ofNat 32 m).getLsbD (i + k) = _
    rw [BitVec.getLsbD_ofNat]
    simp
    omega
  have e3 : (nI (m / 2 ^ i % 256)).toBitVec.getLsbD k = m.testBit (i + k) := by
    show (BitVec.ofNat 32 (m / 2 ^ i % 2 ^ 8)).getLsbD k = _
    rw [BitVec.getLsbD_ofNat, Nat.testBit_mod_two_pow, Nat.testBit_div_two_pow, Nat.add_comm k i]
    have h1 : k < 32 := by omega
    simp [h1, hk]
  rw [e2, e3]
  have h1 : ¬ 32 ≤ k := by omega
  simp [h1, hk]
theorem m_put {S : Sto} {T : Tp} (h : TpM S T) {m : Nat} (hm : m < 2 ^ 32) (hT : T.1 + 4 ≤ 400) : ∃ S', call 166 0 [vR 50 0, vI (nI m)] S = some (none, S') ∧ Fr (pL [50, 67]) S S' ∧ TpM S' (tp4 T m) ∧ ∀ k, k ≠ 17 → S'.1 50 0 k = S.1 50 0 k := by
  show ∃ S', run 166 0 0 [vR 50 0, vI (nI m), vU] [] S = _ ∧ _
  simp (disch := omega) only [s166_0, s166_2, s166_4, s166_7, s166_8, s166_11, s166_12, s166_15, s166_16, s166_17, s166_18, s166_19, s166_20, s166_21, s166_22, s166_25, s166_26, s166_27, s166_30, s166_33, s166_36, s166_3, q_0, q_1, q_2, q_3, q_4, q_5, q_6, q_7, q_8, q_9, q_10, q_11, q_12, q_13, q_14, q_16, q_20, q_23, q_24, q_32, q_42, q_43, q_45, q_47, q_48, q_50, q_57, q_59, q_60, q_61, q_62, q_63, q_64, q_66, q_91, q_93, q_97, q_99, q_122, q_144, q_255, q_256, q_300, q_380, q_400, q_620, q_999, q_1000, q_4095, q_4096, q_9999, q_65536, q_99999, q_31, nI_add, pk_mul, nE, nL, nT, nM31, nShl, ib_nI, nI_clamp, bI_n0, bI_n1, bI_nar, uI_r, uI_l, uL_r, uL_i, uL_p, uA_r, uA_l, bV_some, bU_some, nar_n0, nar_n1, and_self, and_true, true_and, and_false, false_and, if_true, if_false, eq_self, Bool.false_eq_true, Bool.true_eq_false, not_true_eq_false, not_false_eq_true, ↓reduceIte, nlT, nlF, ntT, ntF, neT, neF, ieT, ieF, decide_true, decide_false, Bool.not_true, Bool.not_false, Bool.and_true, Bool.true_and, Bool.and_false, Bool.false_and, Bool.or_true, Bool.true_or, Bool.or_false, Bool.false_or, h.1, nI_m8, neg8, byte_eq, pk_vb, Nat.reduceSub]
  refine ⟨_, rfl, ?_, (((h.put _ rfl).put _ rfl).put _ rfl).put _ rfl, fun k hk => ?_⟩
  · exact (((((((Fr.rfl'.uI rfl).uI rfl).uI rfl).uI rfl).uI rfl).uI rfl).uI rfl).uI rfl
  · simp (disch := omega) only [q_0, q_1, q_2, q_3, q_4, q_5, q_6, q_7, q_8, q_9, q_10, q_11, q_12, q_13, q_14, q_16, q_20, q_23, q_24, q_32, q_42, q_43, q_45, q_47, q_48, q_50, q_57, q_59, q_60, q_61, q_62, q_63, q_64, q_66, q_91, q_93, q_97, q_99, q_122, q_144, q_255, q_256, q_300, q_380, q_400, q_620, q_999, q_1000, q_4095, q_4096, q_9999, q_65536, q_99999, q_31, nI_add, pk_mul, nE, nL, nT, nM31, nShl, ib_nI, nI_clamp, bI_n0, bI_n1, bI_nar, uI_r, uI_l, uL_r, uL_i, uL_p, uA_r, uA_l, bV_some, bU_some, nar_n0, nar_n1, and_self, and_true, true_and, and_false, false_and, if_true, if_false, eq_self, Bool.false_eq_true, Bool.true_eq_false, not_true_eq_false, not_false_eq_true, ↓reduceIte, nlT, nlF, ntT, ntF, neT, neF, ieT, ieF, decide_true, decide_false, Bool.not_true, Bool.not_false, Bool.and_true, Bool.true_and, Bool.and_false, Bool.false_and, Bool.or_true, Bool.true_or, Bool.or_false, Bool.false_or]
theorem sl_tp {S : Sto} {A : Tn} {R : Rs} {T : Tp} {kc km : Nat} {as : List av} {v : Int32} (h : Inv S A R) (hT : T.1 ≤ 400 ∧ ∀ i, i < T.1 → T.2 i < 256) (hc : ∃ S1, call kc 0 (vR 0 0 :: as) S = some (some (vI v), S1) ∧ Fr (pL [24, 25]) S S1 ∧ TpC S1 T) (hm : ∀ S1, ResM S1 R → ∃ S2, call km 0 (vR 50 0 :: as) S1 = some (some (vI v), S2) ∧ Fr (pL [50, 67]) S1 S2 ∧ TpM S2 T ∧ ∀ k, k ≠ 17 → S2.1 50 0 k = S1.1 50 0 k) : Sl S kc km as := by
  obtain ⟨S1, c1, c2, c3⟩ := hc
  have cf : ∀ t, t ≠ 24 → t ≠ 25 → ∀ i, pL [24, 25] t i = false := by
    intro t h1 h2 i
    simp [pL, h1, h2]
  have mf : ∀ t, t ≠ 50 → t ≠ 67 → ∀ i, pL [50, 67] t i = false := by
    intro t h1 h2 i
    simp [pL, h1, h2]
  have r1 : ResM S1 R := by
    obtain ⟨h1, h2, h3, h4⟩ := h.2.2.2.1
    have e : ∀ t k, 50 ≤ t → S1.1 t 0 k = S.1 t 0 k := fun t k ht => c2.i (cf t (by omega) (by omega) 0) k
    refine ⟨fun k hk => ⟨?_, fun hm f i a b => ?_⟩, ⟨?_, fun r hr => ?_⟩, ⟨?_, fun i hi => ?_⟩, ?_⟩
    · rw [e _ _ (by omega)]; exact (h1 k hk).1
    · rw [e _ _ (by omega)]; exact (h1 k hk).2 hm f i a b
    · rw [e _ _ (by omega)]; exact h2.1
    · exact (h2.2 r hr).fr (fun t a b => funext fun k => e t k (by omega))
    · rw [e _ _ (by omega)]; exact h3.1
    · rw [e _ _ (by omega)]; exact h3.2 i hi
    · rw [e _ _ (by omega)]; exact h4
  obtain ⟨S2, m1, m2, m3, m4⟩ := hm S1 r1
  refine ⟨v, S1, S2, c1, m1, A, (R.1, R.2.1, T), ?_, ?_, ?_, ?_, h.2.2.2.2.1, h.2.2.2.2.2.1, h.2.2.2.2.2.2.1, hT⟩
  · exact (h.1.fr c2 (fun t _ _ => cf t (by omega) (by omega) 0)).fr m2 (fun t _ _ => mf t (by omega) (by omega) 0)
  · obtain ⟨h1, h2, h3, h4⟩ := h.2.1
    have e : ∀ t i k, t < 50 → t ≠ 24 → t ≠ 25 → S2.1 t i k = S.1 t i k := fun t i k ht a b => (m2.i (mf t (by omega) (by omega) i) k).trans (c2.i (cf t a b i) k)
    have e5 : ∀ t i k, t < 50 → S2.1 t i k = S1.1 t i k := fun t i k ht => m2.i (mf t (by omega) (by omega) i) k
    refine ⟨fun k hk => ⟨?_, fun hm => ?_⟩, ⟨?_, fun r hr => ?_⟩, ⟨?_, fun i hi => ?_⟩, fun k hk => ?_⟩
    · rw [e _ _ _ (by omega) (by omega) (by omega)]; exact (h1 k hk).1
    · exact (((h1 k hk).2 hm).fr c2 (fun t _ _ => cf t (by omega) (by omega) _)).fr m2 (fun t _ _ => mf t (by omega) (by omega) _)
    · rw [e _ _ _ (by omega) (by omega) (by omega)]; exact h2.1
    · exact (h2.2 r hr).fr (fun t a b => funext fun k => e t r k (by omega) (by omega) (by omega))
    · rw [e5 _ _ _ (by omega)]; exact c3.1
    · rw [e5 _ _ _ (by omega)]; exact c3.2 i hi
    · rw [m2.l (mf 44 (by omega) (by omega) 0), c2.l (cf 44 (by omega) (by omega) 0)]; exact h4 k hk
  · exact (h.2.2.1.fr c2 (fun t _ _ => cf t (by omega) (by omega) 0)).fr m2 (fun t _ _ => mf t (by omega) (by omega) 0)
  · obtain ⟨h1, h2, h3, h4⟩ := r1
    have e : ∀ t k, t ≠ 50 → t ≠ 67 → S2.1 t 0 k = S1.1 t 0 k := fun t k a b => m2.i (mf t a b 0) k
    refine ⟨fun k hk => ⟨?_, fun hm f i a b => ?_⟩, ⟨?_, fun r hr => ?_⟩, m3, ?_⟩
    · rw [e _ _ (by omega) (by omega)]; exact (h1 k hk).1
    · rw [e _ _ (by omega) (by omega)]; exact (h1 k hk).2 hm f i a b
    · rw [m4 21 (by decide)]; exact h2.1
    · exact (h2.2 r hr).fr (fun t a b => funext fun k => e t k (by omega) (by omega))
    · rw [m4 26 (by decide)]; exact h4
theorem tp4_ok {T : Tp} (hT : T.1 ≤ 396 ∧ ∀ i, i < T.1 → T.2 i < 256) (m : Nat) : (tp4 T m).1 = T.1 + 4 ∧ ∀ i, i < (tp4 T m).1 → (tp4 T m).2 i < 256 := by
  refine ⟨rfl, fun i hi => ?_⟩
  have hi' : i < T.1 + 4 := hi
  show (if i = T.1 + 1 + 1 + 1 then m / 2 ^ 0 % 256 else if i = T.1 + 1 + 1 then m / 2 ^ 8 % 256 else if i = T.1 + 1 then m / 2 ^ 16 % 256 else if i = T.1 then m / 2 ^ 24 % 256 else T.2 i) < 256
  have := hT.2 i
  (repeat' split) <;> omega
def tp5 (T : Tp) (a b c d e : Nat) : Tp := tp4 (tp4 (tp4 (tp4 (tp4 T a) b) c) d) e
def o_feed (T : Tp) (a b c d e : Int32) : Int32 × Tp := if T.1 ≤ 380 then (nI (T.1 + 20), tp5 T a.toBitVec.toNat b.toBitVec.toNat c.toBitVec.toNat d.toBitVec.toNat e.toBitVec.toNat) else (-nI 1, T)
theorem w_feed {T : Tp} (hT : T.1 ≤ 400 ∧ ∀ i, i < T.1 → T.2 i < 256) (a b c d e : Int32) : (o_feed T a b c d e).2.1 ≤ 400 ∧ ∀ i, i < (o_feed T a b c d e).2.1 → (o_feed T a b c d e).2.2 i < 256 := by
  unfold o_feed
  split
  · have h1 := tp4_ok (T := T) ⟨by omega, hT.2⟩ a.toBitVec.toNat
    have h2 := tp4_ok (m := b.toBitVec.toNat) ⟨by omega, h1.2⟩
    have h3 := tp4_ok (m := c.toBitVec.toNat) ⟨by omega, h2.2⟩
    have h4 := tp4_ok (m := d.toBitVec.toNat) ⟨by omega, h3.2⟩
    have h5 := tp4_ok (m := e.toBitVec.toNat) ⟨by omega, h4.2⟩
    exact ⟨by show (tp4 _ _).1 ≤ 400; omega, h5.2⟩
  · exact hT
theorem c_feed {S : Sto} {T : Tp} (h : TpC S T) (hT : T.1 ≤ 400) (a b c d e : Int32) : ∃ S1, call 101 0 [vR 0 0, vI a, vI b, vI c, vI d, vI e] S = some (some (vI (o_feed T a b c d e).1), S1) ∧ Fr (pL [24, 25]) S S1 ∧ TpC S1 (o_feed T a b c d e).2 := by
  show ∃ S1, run 101 0 0 [vR 0 0, vI a, vI b, vI c, vI d, vI e] [] S = _ ∧ _
  unfold o_feed
  by_cases e0 : T.1 ≤ 380
  · have la := a.toBitVec.isLt
    have lb := b.toBitVec.isLt
    have lc := c.toBitVec.isLt
    have ld := d.toBitVec.isLt
    have le := e.toBitVec.isLt
    rw [nI_self a, nI_self b, nI_self c, nI_self d, nI_self e]
    rw [pk_tn la, pk_tn lb, pk_tn lc, pk_tn ld, pk_tn le]
    obtain ⟨S1, a1, a2, a3⟩ := x_put h (m := a.toBitVec.toNat) la (by omega)
    have t1 : (tp4 T a.toBitVec.toNat).1 = T.1 + 4 := rfl
    obtain ⟨S2, b1, b2, b3⟩ := x_put a3 (m := b.toBitVec.toNat) lb (by omega)
    have t2 : (tp4 (tp4 T a.toBitVec.toNat) b.toBitVec.toNat).1 = T.1 + 8 := rfl
    obtain ⟨S3, c1, c2, c3⟩ := x_put b3 (m := c.toBitVec.toNat) lc (by omega)
    have t3 : (tp4 (tp4 (tp4 T a.toBitVec.toNat) b.toBitVec.toNat) c.toBitVec.toNat).1 = T.1 + 12 := rfl
    obtain ⟨S4, d1, d2, d3⟩ := x_put c3 (m := d.toBitVec.toNat) ld (by omega)
    have t4 : (tp4 (tp4 (tp4 (tp4 T a.toBitVec.toNat) b.toBitVec.toNat) c.toBitVec.toNat) d.toBitVec.toNat).1 = T.1 + 16 := rfl
    obtain ⟨S5, f1, f2, f3⟩ := x_put d3 (m := e.toBitVec.toNat) le (by omega)
    have f4 : S5.1 24 0 1 = nI (T.1 + 20) := f3.1
    simp (disch := omega) only [s101_0, s101_1, s101_4, s101_7, s101_10, s101_13, s101_14, s101_15, s101_16, s101_19, s101_20, s101_23, s101_24, s101_27, s101_28, s101_31, s101_32, s101_35, s101_36, s101_39, s101_40, s101_43, s101_45, s101_48, s101_49, s101_52, s101_54, s101_57, s101_58, s101_61, s101_64, q_0, q_1, q_2, q_3, q_4, q_5, q_6, q_7, q_8, q_9, q_10, q_11, q_12, q_13, q_14, q_16, q_20, q_23, q_24, q_32, q_42, q_43, q_45, q_47, q_48, q_50, q_57, q_59, q_60, q_61, q_62, q_63, q_64, q_66, q_91, q_93, q_97, q_99, q_122, q_144, q_255, q_256, q_300, q_380, q_400, q_620, q_999, q_1000, q_4095, q_4096, q_9999, q_65536, q_99999, q_31, nI_add, pk_mul, nE, nL, nT, nM31, nShl, ib_nI, nI_clamp, bI_n0, bI_n1, bI_nar, uI_r, uI_l, uL_r, uL_i, uL_p, uA_r, uA_l, bV_some, bU_some, nar_n0, nar_n1, and_self, and_true, true_and, and_false, false_and, if_true, if_false, eq_self, Bool.false_eq_true, Bool.true_eq_false, not_true_eq_false, not_false_eq_true, ↓reduceIte, nlT, nlF, ntT, ntF, neT, neF, ieT, ieF, decide_true, decide_false, Bool.not_true, Bool.not_false, Bool.and_true, Bool.true_and, Bool.and_false, Bool.false_and, Bool.or_true, Bool.true_or, Bool.or_false, Bool.false_or, h.1, a1, b1, c1, d1, f1, f4]
    exact ⟨_, rfl, (((a2.tr b2).tr c2).tr d2).tr f2, f3⟩
  · simp (disch := omega) only [s101_0, s101_1, s101_4, s101_7, s101_10, s101_13, s101_14, s101_15, s101_16, s101_19, s101_20, s101_23, s101_24, s101_27, s101_28, s101_31, s101_32, s101_35, s101_36, s101_39, s101_40, s101_43, s101_45, s101_48, s101_49, s101_52, s101_54, s101_57, s101_58, s101_61, s101_64, q_0, q_1, q_2, q_3, q_4, q_5, q_6, q_7, q_8, q_9, q_10, q_11, q_12, q_13, q_14, q_16, q_20, q_23, q_24, q_32, q_42, q_43, q_45, q_47, q_48, q_50, q_57, q_59, q_60, q_61, q_62, q_63, q_64, q_66, q_91, q_93, q_97, q_99, q_122, q_144, q_255, q_256, q_300, q_380, q_400, q_620, q_999, q_1000, q_4095, q_4096, q_9999, q_65536, q_99999, q_31, nI_add, pk_mul, nE, nL, nT, nM31, nShl, ib_nI, nI_clamp, bI_n0, bI_n1, bI_nar, uI_r, uI_l, uL_r, uL_i, uL_p, uA_r, uA_l, bV_some, bU_some, nar_n0, nar_n1, and_self, and_true, true_and, and_false, false_and, if_true, if_false, eq_self, Bool.false_eq_true, Bool.true_eq_false, not_true_eq_false, not_false_eq_true, ↓reduceIte, nlT, nlF, ntT, ntF, neT, neF, ieT, ieF, decide_true, decide_false, Bool.not_true, Bool.not_false, Bool.and_true, Bool.true_and, Bool.and_false, Bool.false_and, Bool.or_true, Bool.true_or, Bool.or_false, Bool.false_or, h.1, e0]
    exact ⟨_, rfl, Fr.rfl', h⟩
theorem r_feed {S : Sto} {T : Tp} (h : TpM S T) (hT : T.1 ≤ 400) (a b c d e : Int32) : ∃ S1, call 165 0 [vR 50 0, vI a, vI b, vI c, vI d, vI e] S = some (some (vI (o_feed T a b c d e).1), S1) ∧ Fr (pL [50, 67]) S S1 ∧ TpM S1 (o_feed T a b c d e).2 ∧ ∀ k, k ≠ 17 → S1.1 50 0 k = S.1 50 0 k := by
  show ∃ S1, run 165 0 0 [vR 50 0, vI a, vI b, vI c, vI d, vI e] [] S = _ ∧ _
  unfold o_feed
  by_cases e0 : T.1 ≤ 380
  · have la := a.toBitVec.isLt
    have lb := b.toBitVec.isLt
    have lc := c.toBitVec.isLt
    have ld := d.toBitVec.isLt
    have le := e.toBitVec.isLt
    rw [nI_self a, nI_self b, nI_self c, nI_self d, nI_self e]
    rw [pk_tn la, pk_tn lb, pk_tn lc, pk_tn ld, pk_tn le]
    obtain ⟨S1, a1, a2, a3, a4⟩ := m_put h (m := a.toBitVec.toNat) la (by omega)
    have t1 : (tp4 T a.toBitVec.toNat).1 = T.1 + 4 := rfl
    obtain ⟨S2, b1, b2, b3, b4⟩ := m_put a3 (m := b.toBitVec.toNat) lb (by omega)
    have t2 : (tp4 (tp4 T a.toBitVec.toNat) b.toBitVec.toNat).1 = T.1 + 8 := rfl
    obtain ⟨S3, c1, c2, c3, c4⟩ := m_put b3 (m := c.toBitVec.toNat) lc (by omega)
    have t3 : (tp4 (tp4 (tp4 T a.toBitVec.toNat) b.toBitVec.toNat) c.toBitVec.toNat).1 = T.1 + 12 := rfl
    obtain ⟨S4, d1, d2, d3, d4⟩ := m_put c3 (m := d.toBitVec.toNat) ld (by omega)
    have t4 : (tp4 (tp4 (tp4 (tp4 T a.toBitVec.toNat) b.toBitVec.toNat) c.toBitVec.toNat) d.toBitVec.toNat).1 = T.1 + 16 := rfl
    obtain ⟨S5, f1, f2, f3, f5⟩ := m_put d3 (m := e.toBitVec.toNat) le (by omega)
    have f4 : S5.1 50 0 17 = nI (T.1 + 20) := f3.1
    simp (disch := omega) only [s165_0, s165_1, s165_4, s165_6, s165_7, s165_10, s165_13, s165_14, s165_15, s165_16, s165_17, s165_20, s165_21, s165_22, s165_25, s165_26, s165_27, s165_30, s165_31, s165_33, s165_36, s165_37, s165_39, s165_42, s165_43, s165_46, q_0, q_1, q_2, q_3, q_4, q_5, q_6, q_7, q_8, q_9, q_10, q_11, q_12, q_13, q_14, q_16, q_20, q_23, q_24, q_32, q_42, q_43, q_45, q_47, q_48, q_50, q_57, q_59, q_60, q_61, q_62, q_63, q_64, q_66, q_91, q_93, q_97, q_99, q_122, q_144, q_255, q_256, q_300, q_380, q_400, q_620, q_999, q_1000, q_4095, q_4096, q_9999, q_65536, q_99999, q_31, nI_add, pk_mul, nE, nL, nT, nM31, nShl, ib_nI, nI_clamp, bI_n0, bI_n1, bI_nar, uI_r, uI_l, uL_r, uL_i, uL_p, uA_r, uA_l, bV_some, bU_some, nar_n0, nar_n1, and_self, and_true, true_and, and_false, false_and, if_true, if_false, eq_self, Bool.false_eq_true, Bool.true_eq_false, not_true_eq_false, not_false_eq_true, ↓reduceIte, nlT, nlF, ntT, ntF, neT, neF, ieT, ieF, decide_true, decide_false, Bool.not_true, Bool.not_false, Bool.and_true, Bool.true_and, Bool.and_false, Bool.false_and, Bool.or_true, Bool.true_or, Bool.or_false, Bool.false_or, h.1, a1, b1, c1, d1, f1, f4]
    exact ⟨_, rfl, (((a2.tr b2).tr c2).tr d2).tr f2, f3, fun k hk => by rw [f5 k hk, d4 k hk, c4 k hk, b4 k hk, a4 k hk]⟩
  · simp (disch := omega) only [s165_0, s165_1, s165_4, s165_6, s165_7, s165_10, s165_13, s165_14, s165_15, s165_16, s165_17, s165_20, s165_21, s165_22, s165_25, s165_26, s165_27, s165_30, s165_31, s165_33, s165_36, s165_37, s165_39, s165_42, s165_43, s165_46, q_0, q_1, q_2, q_3, q_4, q_5, q_6, q_7, q_8, q_9, q_10, q_11, q_12, q_13, q_14, q_16, q_20, q_23, q_24, q_32, q_42, q_43, q_45, q_47, q_48, q_50, q_57, q_59, q_60, q_61, q_62, q_63, q_64, q_66, q_91, q_93, q_97, q_99, q_122, q_144, q_255, q_256, q_300, q_380, q_400, q_620, q_999, q_1000, q_4095, q_4096, q_9999, q_65536, q_99999, q_31, nI_add, pk_mul, nE, nL, nT, nM31, nShl, ib_nI, nI_clamp, bI_n0, bI_n1, bI_nar, uI_r, uI_l, uL_r, uL_i, uL_p, uA_r, uA_l, bV_some, bU_some, nar_n0, nar_n1, and_self, and_true, true_and, and_false, false_and, if_true, if_false, eq_self, Bool.false_eq_true, Bool.true_eq_false, not_true_eq_false, not_false_eq_true, ↓reduceIte, nlT, nlF, ntT, ntF, neT, neF, ieT, ieF, decide_true, decide_false, Bool.not_true, Bool.not_false, Bool.and_true, Bool.true_and, Bool.and_false, Bool.false_and, Bool.or_true, Bool.true_or, Bool.or_false, Bool.false_or, h.1, e0]
    exact ⟨_, rfl, Fr.rfl', h, fun _ _ => rfl⟩
def o_end (T : Tp) (n : Int32) : Int32 × Tp := if lsB n (T.1 + 1) = true then (n, (n.toNatClampNeg, T.2)) else (-nI 1, T)
theorem w_end {T : Tp} (hT : T.1 ≤ 400 ∧ ∀ i, i < T.1 → T.2 i < 256) (n : Int32) : (o_end T n).2.1 ≤ 400 ∧ ∀ i, i < (o_end T n).2.1 → (o_end T n).2.2 i < 256 := by
  unfold o_end
  split
  · rename_i e
    obtain ⟨j, hj, rfl⟩ := lsB_t e (by omega)
    rw [nI_clamp (by omega)]
    exact ⟨by show j ≤ 400; omega, fun i hi => hT.2 i (by have : i < j := hi; omega)⟩
  · exact hT
theorem c_end {S : Sto} {T : Tp} (h : TpC S T) (hT : T.1 ≤ 400) (n : Int32) : ∃ S1, call 102 0 [vR 0 0, vI n] S = some (some (vI (o_end T n).1), S1) ∧ Fr (pL [24, 25]) S S1 ∧ TpC S1 (o_end T n).2 := by
  show ∃ S1, run 102 0 0 [vR 0 0, vI n] [] S = _ ∧ _
  unfold o_end
  cases e : lsB n (T.1 + 1) with
  | false =>
    simp (disch := omega) only [s102_0, s102_1, s102_2, s102_5, s102_8, s102_11, s102_14, s102_15, s102_16, s102_17, s102_20, s102_21, s102_24, s102_25, q_0, q_1, q_2, q_3, q_4, q_5, q_6, q_7, q_8, q_9, q_10, q_11, q_12, q_13, q_14, q_16, q_20, q_23, q_24, q_32, q_42, q_43, q_45, q_47, q_48, q_50, q_57, q_59, q_60, q_61, q_62, q_63, q_64, q_66, q_91, q_93, q_97, q_99, q_122, q_144, q_255, q_256, q_300, q_380, q_400, q_620, q_999, q_1000, q_4095, q_4096, q_9999, q_65536, q_99999, q_31, nI_add, pk_mul, nE, nL, nT, nM31, nShl, ib_nI, nI_clamp, bI_n0, bI_n1, bI_nar, uI_r, uI_l, uL_r, uL_i, uL_p, uA_r, uA_l, bV_some, bU_some, nar_n0, nar_n1, and_self, and_true, true_and, and_false, false_and, if_true, if_false, eq_self, Bool.false_eq_true, Bool.true_eq_false, not_true_eq_false, not_false_eq_true, ↓reduceIte, nlT, nlF, ntT, ntF, neT, neF, ieT, ieF, decide_true, decide_false, Bool.not_true, Bool.not_false, Bool.and_true, Bool.true_and, Bool.and_false, Bool.false_and, Bool.or_true, Bool.true_or, Bool.or_false, Bool.false_or, h.1, x_in, e]
    exact ⟨_, rfl, Fr.rfl', h⟩
  | true =>
    have e' := e
    obtain ⟨j, hj, rfl⟩ := lsB_t e (by omega)
    simp (disch := omega) only [s102_0, s102_1, s102_2, s102_5, s102_8, s102_11, s102_14, s102_15, s102_16, s102_17, s102_20, s102_21, s102_24, s102_25, q_0, q_1, q_2, q_3, q_4, q_5, q_6, q_7, q_8, q_9, q_10, q_11, q_12, q_13, q_14, q_16, q_20, q_23, q_24, q_32, q_42, q_43, q_45, q_47, q_48, q_50, q_57, q_59, q_60, q_61, q_62, q_63, q_64, q_66, q_91, q_93, q_97, q_99, q_122, q_144, q_255, q_256, q_300, q_380, q_400, q_620, q_999, q_1000, q_4095, q_4096, q_9999, q_65536, q_99999, q_31, nI_add, pk_mul, nE, nL, nT, nM31, nShl, ib_nI, nI_clamp, bI_n0, bI_n1, bI_nar, uI_r, uI_l, uL_r, uL_i, uL_p, uA_r, uA_l, bV_some, bU_some, nar_n0, nar_n1, and_self, and_true, true_and, and_false, false_and, if_true, if_false, eq_self, Bool.false_eq_true, Bool.true_eq_false, not_true_eq_false, not_false_eq_true, ↓reduceIte, nlT, nlF, ntT, ntF, neT, neF, ieT, ieF, decide_true, decide_false, Bool.not_true, Bool.not_false, Bool.and_true, Bool.true_and, Bool.and_false, Bool.false_and, Bool.or_true, Bool.true_or, Bool.or_false, Bool.false_or, h.1, x_in, e']
    refine ⟨_, rfl, Fr.rfl'.uI rfl, ?_, fun i hi => ?_⟩
    · rw [uI_r, if_pos ⟨rfl, rfl, rfl⟩]
    · rw [uI_r, if_neg (by omega)]
      exact h.2 i (by have : i < j := hi; omega)
theorem r_end {S : Sto} {T : Tp} (h : TpM S T) (hT : T.1 ≤ 400) (n : Int32) : ∃ S1, call 167 0 [vR 50 0, vI n] S = some (some (vI (o_end T n).1), S1) ∧ Fr (pL [50, 67]) S S1 ∧ TpM S1 (o_end T n).2 ∧ ∀ k, k ≠ 17 → S1.1 50 0 k = S.1 50 0 k := by
  show ∃ S1, run 167 0 0 [vR 50 0, vI n] [] S = _ ∧ _
  unfold o_end
  cases e : lsB n (T.1 + 1) with
  | false =>
    have e2 : n < nI 0 ∨ (¬ n < nI 0 ∧ ¬ n ≤ nI T.1) := by
      unfold lsB at e
      simp only [Bool.and_eq_false_iff, Bool.not_eq_false', decide_eq_true_eq] at e
      by_cases q : n < nI 0
      · exact Or.inl q
      · refine Or.inr ⟨q, ?_⟩
        have := e.resolve_left q
        rw [← lt_le (by omega)] at this
        exact Int32.not_le.mpr this
    rcases e2 with e2 | e2
    · simp (disch := omega) only [s167_0, s167_1, s167_4, s167_5, s167_6, s167_9, s167_12, s167_13, s167_14, s167_15, s167_16, s167_19, s167_20, q_0, q_1, q_2, q_3, q_4, q_5, q_6, q_7, q_8, q_9, q_10, q_11, q_12, q_13, q_14, q_16, q_20, q_23, q_24, q_32, q_42, q_43, q_45, q_47, q_48, q_50, q_57, q_59, q_60, q_61, q_62, q_63, q_64, q_66, q_91, q_93, q_97, q_99, q_122, q_144, q_255, q_256, q_300, q_380, q_400, q_620, q_999, q_1000, q_4095, q_4096, q_9999, q_65536, q_99999, q_31, nI_add, pk_mul, nE, nL, nT, nM31, nShl, ib_nI, nI_clamp, bI_n0, bI_n1, bI_nar, uI_r, uI_l, uL_r, uL_i, uL_p, uA_r, uA_l, bV_some, bU_some, nar_n0, nar_n1, and_self, and_true, true_and, and_false, false_and, if_true, if_false, eq_self, Bool.false_eq_true, Bool.true_eq_false, not_true_eq_false, not_false_eq_true, ↓reduceIte, nlT, nlF, ntT, ntF, neT, neF, ieT, ieF, decide_true, decide_false, Bool.not_true, Bool.not_false, Bool.and_true, Bool.true_and, Bool.and_false, Bool.false_and, Bool.or_true, Bool.true_or, Bool.or_false, Bool.false_or, h.1, e2]
      exact ⟨_, rfl, Fr.rfl', h, fun _ _ => rfl⟩
    · simp (disch := omega) only [s167_0, s167_1, s167_4, s167_5, s167_6, s167_9, s167_12, s167_13, s167_14, s167_15, s167_16, s167_19, s167_20, q_0, q_1, q_2, q_3, q_4, q_5, q_6, q_7, q_8, q_9, q_10, q_11, q_12, q_13, q_14, q_16, q_20, q_23, q_24, q_32, q_42, q_43, q_45, q_47, q_48, q_50, q_57, q_59, q_60, q_61, q_62, q_63, q_64, q_66, q_91, q_93, q_97, q_99, q_122, q_144, q_255, q_256, q_300, q_380, q_400, q_620, q_999, q_1000, q_4095, q_4096, q_9999, q_65536, q_99999, q_31, nI_add, pk_mul, nE, nL, nT, nM31, nShl, ib_nI, nI_clamp, bI_n0, bI_n1, bI_nar, uI_r, uI_l, uL_r, uL_i, uL_p, uA_r, uA_l, bV_some, bU_some, nar_n0, nar_n1, and_self, and_true, true_and, and_false, false_and, if_true, if_false, eq_self, Bool.false_eq_true, Bool.true_eq_false, not_true_eq_false, not_false_eq_true, ↓reduceIte, nlT, nlF, ntT, ntF, neT, neF, ieT, ieF, decide_true, decide_false, Bool.not_true, Bool.not_false, Bool.and_true, Bool.true_and, Bool.and_false, Bool.false_and, Bool.or_true, Bool.true_or, Bool.or_false, Bool.false_or, h.1, e2.1, e2.2]
      exact ⟨_, rfl, Fr.rfl', h, fun _ _ => rfl⟩
  | true =>
    obtain ⟨j, hj, rfl⟩ := lsB_t e (by omega)
    simp (disch := omega) only [s167_0, s167_1, s167_4, s167_5, s167_6, s167_9, s167_12, s167_13, s167_14, s167_15, s167_16, s167_19, s167_20, q_0, q_1, q_2, q_3, q_4, q_5, q_6, q_7, q_8, q_9, q_10, q_11, q_12, q_13, q_14, q_16, q_20, q_23, q_24, q_32, q_42, q_43, q_45, q_47, q_48, q_50, q_57, q_59, q_60, q_61, q_62, q_63, q_64, q_66, q_91, q_93, q_97, q_99, q_122, q_144, q_255, q_256, q_300, q_380, q_400, q_620, q_999, q_1000, q_4095, q_4096, q_9999, q_65536, q_99999, q_31, nI_add, pk_mul, nE, nL, nT, nM31, nShl, ib_nI, nI_clamp, bI_n0, bI_n1, bI_nar, uI_r, uI_l, uL_r, uL_i, uL_p, uA_r, uA_l, bV_some, bU_some, nar_n0, nar_n1, and_self, and_true, true_and, and_false, false_and, if_true, if_false, eq_self, Bool.false_eq_true, Bool.true_eq_false, not_true_eq_false, not_false_eq_true, ↓reduceIte, nlT, nlF, ntT, ntF, neT, neF, ieT, ieF, decide_true, decide_false, Bool.not_true, Bool.not_false, Bool.and_true, Bool.true_and, Bool.and_false, Bool.false_and, Bool.or_true, Bool.true_or, Bool.or_false, Bool.false_or, h.1]
    refine ⟨_, rfl, Fr.rfl'.uI rfl, ⟨?_, fun i hi => ?_⟩, fun k hk => ?_⟩
    · rw [uI_r, if_pos ⟨rfl, rfl, rfl⟩]
    · rw [uI_r, if_neg (by omega)]
      exact h.2 i (by have : i < j := hi; omega)
    · rw [uI_r, if_neg (by omega)]
