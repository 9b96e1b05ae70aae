/-! all that can be done -/
theorem ofI_lN (y : Int) : Int64.ofInt y = lN (y % 2 ^ 64).toNat := by
  apply Int64.toBitVec_inj.1
  show BitVec.ofInt 64 y = BitVec.ofNat 64 _
  apply BitVec.eq_of_toNat_eq
  rw [BitVec.toNat_ofInt, BitVec.toNat_ofNat]
  have h1 : 0 ≤ y % 2 ^ 64 := Int.emod_nonneg _ (by decide)
  have h2 : y % 2 ^ 64 < 2 ^ 64 := Int.emod_lt_of_pos _ (by decide)
  rw [Nat.mod_eq_of_lt]
  · rfl
  · omega
theorem lN_neg {n : Nat} (h : n < 2 ^ 64) : -(lN n) = lN (2 ^ 64 - n) := by
  apply Int64.toBitVec_inj.1
  show -(BitVec.ofNat 64 n) = BitVec.ofNat 64 (2 ^ 64 - n)
  apply BitVec.eq_of_toNat_eq
  rw [BitVec.toNat_neg, BitVec.toNat_ofNat, BitVec.toNat_ofNat, Nat.mod_eq_of_lt h]
theorem al_mask {b : Int} {w c X : Nat} (hb : 0 ≤ b) (hb2 : b < 2 ^ 62) (hX : X < 4096) (e : b = w * 1048576 - c * 8192 - X) : (-(Int64.ofInt b) &&& 8191).toInt32 = nI X := by
  have e2 : (8191 : Int64) = lN 8191 := rfl
  have e3 : (b % 2 ^ 64).toNat = b.toNat := by omega
  have e4 := Nat.and_two_pow_sub_one_eq_mod (2 ^ 64 - b.toNat) 13
  rw [show (2 : Nat) ^ 13 - 1 = 8191 by decide] at e4
  rw [ofI_lN, e3, lN_neg (by omega), e2, lx_and, lN_i, e4]
  congr 1
  omega
def alW (A : Tn) (w : Nat) : Int := if A 12 w = 0 then 0 else (A 12 w : Int) * 1048576 - 8192 - 2 ^ w
theorem al_b {A : Tn} (hw : WF A) {w : Nat} (hv : w < 12) : 0 ≤ alW A w ∧ alW A w ≤ 2 ^ 36 := by
  have h1 := (hw.W hv).2.2.1
  have h2 : (2 : Int) ^ w ≤ 2 ^ 11 := by
    have : (2 : Nat) ^ w ≤ 2 ^ 11 := Nat.pow_le_pow_right (by decide) (by omega)
    exact_mod_cast this
  have h3 : (0 : Int) ≤ 2 ^ w := by
    have : (0 : Nat) ≤ 2 ^ w := Nat.zero_le _
    exact_mod_cast this
  unfold alW
  split
  · omega
  · omega
theorem bN_self {X : Nat} (hX : X < 2 ^ 12) : bN (fun i => X.testBit i) 12 = X := by
  apply Nat.eq_of_testBit_eq
  intro i
  rw [bN_bit]
  by_cases c : i < 12
  · simp [c]
  · rw [tb_hi hX (i := i) (by omega)]
    simp
theorem al_sum {A : Tn} (hW : A 0 2 ≤ 12) {X : Nat} (hX : X < 2 ^ A 0 2) (hp : ∀ w, X.testBit w = true → A 12 w ≠ 0) : sumS (alW A) X = (wsN A X : Int) * 1048576 - (ctp X 12 : Int) * 8192 - (X : Int) := by
  have hX12 : X < 2 ^ 12 := Nat.lt_of_lt_of_le hX (Nat.pow_le_pow_right (by decide) hW)
  have e1 : ∀ n, smZ (fun i => if X.testBit i = true then alW A i else 0) n = (fsN (fun w => if X.testBit w = true then A 12 w else 0) n : Int) * 1048576 - (ctp X n : Int) * 8192 - (bN (fun i => X.testBit i) n : Int) := by
    intro n
    induction n with
    | zero => simp [smZ, fsN, ctp, ct, bN]
    | succ n ih =>
      rw [smZ_s, ih, ctp_s]
      have e2 : fsN (fun w => if X.testBit w = true then A 12 w else 0) (n + 1) = fsN (fun w => if X.testBit w = true then A 12 w else 0) n + if X.testBit n = true then A 12 n else 0 := rfl
      have e3 : bN (fun i => X.testBit i) (n + 1) = bN (fun i => X.testBit i) n + if X.testBit n = true then 2 ^ n else 0 := rfl
      rw [e2, e3]
      cases c : X.testBit n with
      | false =>
        simp only [Bool.false_eq_true, if_false]
        omega
      | true =>
        simp only [if_true]
        unfold alW
        rw [if_neg (hp n c)]
        have e4 : ((2 ^ n : Nat) : Int) = 2 ^ n := by exact_mod_cast rfl
        rw [Int.natCast_add, Int.natCast_add, Int.natCast_add, e4]
        omega
  unfold sumS
  rw [e1, bN_self hX12]
  have e2 := fsN_zero (f := fun w => if X.testBit w = true then A 12 w else 0) (A 0 2) (12 - A 0 2) (fun i h1 _ => by
    show (if X.testBit i = true then A 12 i else 0) = 0
    rw [tb_hi hX h1]
    rfl)
  rw [show A 0 2 + (12 - A 0 2) = 12 by omega] at e2
  rw [e2]
  rfl
def lexL (A : Tn) (X B : Nat) : Prop := wsN A X < wsN A B ∨ (wsN A X = wsN A B ∧ (pop B < pop X ∨ (pop B = pop X ∧ B ≤ X)))
def AllP (A : Tn) (m B : Nat) : Prop := Sub B m ∧ apB A B = true ∧ ∀ X, Sub X m → apB A X = true → lexL A X B
theorem AllP.uniq {A : Tn} {m B B' : Nat} (h : AllP A m B) (h' : AllP A m B') : B = B' := by
  have h1 := h.2.2 B' h'.1 h'.2.1
  have h2 := h'.2.2 B h.1 h.2.1
  unfold lexL at h1 h2
  omega
theorem subN_le {X Y : Nat} (h : Sub X Y) : X ≤ Y := by
  have h3 : X &&& Y = X := by
    apply Nat.eq_of_testBit_eq
    intro i
    rw [Nat.testBit_and]
    cases e : X.testBit i with
    | false => rfl
    | true => rw [h i e]; rfl
  have := Nat.and_le_right (n := X) (m := Y)
  omega
theorem ap_sub {A : Tn} {X Y : Nat} (h : Sub X Y) (hY : apB A Y = true) : apB A X = true := by
  rw [apB_t] at hY ⊢
  exact fun a b h1 h2 h3 h4 => hY a b h1 h2 (h a h3) (h b h4)
def mayA (A : Tn) (L : Lw) : Nat := bN (caB A L) (A 0 2)
def opa (A : Tn) (L : Lw) (w : Nat) : Bool := !(A 12 w == 0) && caB A L w
theorem all_c {A : Tn} {L : Lw} (hw : WF A) : ∃ B, AllP A (mayA A L) B ∧ B < 4096 ∧ bsI (alW A) (clS A) 12 (bN (opa A L) (A 0 2)) = (wsN A B : Int) * 1048576 - (ctp B 12 : Int) * 8192 - (B : Int) := by
  have hWk := hw.wk
  have hM12 : 2 ^ A 0 2 ≤ 2 ^ 12 := Nat.pow_le_pow_right (by decide) hWk
  have hs : bN (opa A L) (A 0 2) < 2 ^ A 0 2 := bN_lt _ _
  obtain ⟨⟨B, b1, b2, b3⟩, b4⟩ := bs_max (v := alW A) (C := clS A) (cl := clC A) hWk (fun k hk => (al_b hw (by omega)).1) (fun k j _ hj _ => clS_bit hj) (clC_sym A) 12 (bN (opa A L) (A 0 2)) hs (ct_le _ _)
  have hsub : ∀ X, Sub X (bN (opa A L) (A 0 2)) → Sub X (mayA A L) ∧ X < 2 ^ A 0 2 ∧ ∀ w, X.testBit w = true → A 12 w ≠ 0 := by
    intro X hX
    refine ⟨fun i hi => ?_, hX.lt hs, fun i hi => ?_⟩
    · have := hX i hi
      unfold mayA
      rw [bN_bit] at this ⊢
      unfold opa at this
      simp only [Bool.and_eq_true] at this ⊢
      exact ⟨this.1, this.2.2⟩
    · have := hX i hi
      rw [bN_bit] at this
      unfold opa at this
      simp only [Bool.and_eq_true, Bool.not_eq_true', beq_eq_false_iff_ne] at this
      exact this.2.1
  obtain ⟨c1, c2, c3⟩ := hsub B b1
  have hB12 : B < 2 ^ 12 := by omega
  have e1 := al_sum hWk c2 c3
  refine ⟨B, ⟨c1, (ap_ind hB12).mpr b2, fun X hX hap => ?_⟩, hB12, by rw [← b3, e1]⟩
  have hXW : X < 2 ^ A 0 2 := hX.lt (bN_lt _ _)
  have hX12 : X < 2 ^ 12 := by omega
  have h0b : ∀ i, (X &&& bN (opa A L) (A 0 2)).testBit i = (X.testBit i && (bN (opa A L) (A 0 2)).testBit i) := fun i => Nat.testBit_and _ _ _
  have h0s : Sub (X &&& bN (opa A L) (A 0 2)) (bN (opa A L) (A 0 2)) := fun i hi => by
    rw [h0b] at hi
    simp only [Bool.and_eq_true] at hi
    exact hi.2
  have h0x : Sub (X &&& bN (opa A L) (A 0 2)) X := fun i hi => by
    rw [h0b] at hi
    simp only [Bool.and_eq_true] at hi
    exact hi.1
  obtain ⟨d1, d2, d3⟩ := hsub _ h0s
  have h012 : X &&& bN (opa A L) (A 0 2) < 2 ^ 12 := by omega
  have e2 := al_sum hWk d2 d3
  have le := b4 _ h0s ((ap_ind h012).mp (ap_sub h0x hap))
  rw [← b3, e1, e2] at le
  have ew : wsN A (X &&& bN (opa A L) (A 0 2)) = wsN A X := by
    unfold wsN
    apply fsN_congr
    intro w hlt
    show (if (X &&& bN (opa A L) (A 0 2)).testBit w = true then A 12 w else 0) = (if X.testBit w = true then A 12 w else 0)
    rw [h0b]
    cases c : X.testBit w with
    | false => rfl
    | true =>
      rw [Bool.true_and, if_pos rfl, bN_bit]
      have hm := hX w c
      unfold mayA at hm
      rw [bN_bit] at hm
      simp only [Bool.and_eq_true] at hm
      by_cases c2 : A 12 w = 0
      · rw [c2]; simp
      · simp [hlt, opa, c2, hm.2]
  have p1 := (sub_pop hX12 h0x).2
  have p2 := subN_le h0x
  have q1 : pop B = ctp B 12 := pop_12 hB12
  have q2 : pop (X &&& bN (opa A L) (A 0 2)) = ctp (X &&& bN (opa A L) (A 0 2)) 12 := pop_12 h012
  have r1 : ctp B 12 ≤ 12 := ct_le _ _
  have r2 : ctp (X &&& bN (opa A L) (A 0 2)) 12 ≤ 12 := ct_le _ _
  rw [ew] at le
  unfold lexL
  rw [q1]
  rw [q2] at p1
  generalize ctp (X &&& bN (opa A L) (A 0 2)) 12 = c0 at *
  generalize X &&& bN (opa A L) (A 0 2) = X0 at *
  generalize wsN A X = wx at *
  generalize wsN A B = wb at *
  generalize ctp B 12 = cb at *
  omega
theorem x_greatestSet {S : Sto} {q : Nat} {A : Tn} {r : Nat} {L : Lw} (h : RepC S q A) (hw : WF A) (hL : RepLC S r L) (hl : WFL L) : ∃ S' B, call 32 0 [vR 30 0, vR 1 q, vR 17 r, vR 26 0] S = some (some (vI (nI B)), S') ∧ Fr (pL [23, 26, 27, 28, 29, 31, 35]) S S' ∧ AllP A (mayA A L) B ∧ B < 4096 := by
  have hWk := hw.wk
  have hM12 : 2 ^ A 0 2 ≤ 2 ^ 12 := Nat.pow_le_pow_right (by decide) hWk
  obtain ⟨S0, a1, a2, a3⟩ := x_findCl h hw
  show ∃ S' B, run 32 0 0 [vR 30 0, vR 1 q, vR 17 r, vR 26 0, vU, vU] [] S = _ ∧ _
  simp (disch := omega) only [s32_0, s32_1, s32_2, s32_5, s32_6, s32_8, s32_9, s32_13, s32_14, s32_17, s32_20, s32_21, s32_24, s32_26, s32_27, s32_30, s32_32, s32_33, s32_34, s32_37, s32_38, s32_41, s32_42, s32_43, s32_45, s32_46, s32_47, s32_48, s32_49, s32_50, s32_53, s32_55, s32_56, s32_59, s32_60, s32_61, s32_62, s32_64, s32_67, s32_70, s32_72, s32_73, s32_75, s32_76, s32_77, s32_79, s32_82, s32_85, s32_87, s32_88, s32_91, s32_92, s32_95, s32_96, s32_99, s32_100, s32_103, s32_104, s32_105, q_0, q_1, q_2, q_3, q_4, q_5, q_6, q_7, q_8, q_9, q_10, q_11, q_12, q_13, q_14, q_16, q_20, q_23, q_24, q_32, q_42, q_43, q_45, q_47, q_48, q_50, q_57, q_59, q_60, q_61, q_62, q_63, q_64, q_66, q_91, q_93, q_97, q_99, q_122, q_144, q_255, q_256, q_300, q_380, q_400, q_620, q_999, q_1000, q_4095, q_4096, q_9999, q_65536, q_99999, q_31, nI_add, pk_mul, nE, nL, nT, nM31, nShl, ib_nI, nI_clamp, bI_n0, bI_n1, bI_nar, uI_r, uI_l, uL_r, uL_i, uL_p, uA_r, uA_l, bV_some, bU_some, nar_n0, nar_n1, and_self, and_true, true_and, and_false, false_and, if_true, if_false, eq_self, Bool.false_eq_true, Bool.true_eq_false, not_true_eq_false, not_false_eq_true, ↓reduceIte, nlT, nlF, ntT, ntF, neT, neF, ieT, ieF, decide_true, decide_false, Bool.not_true, Bool.not_false, Bool.and_true, Bool.true_and, Bool.and_false, Bool.false_and, Bool.or_true, Bool.true_or, Bool.or_false, Bool.false_or, a1]
  refine upS (σ := Sto) (I := fun w S1 => Fr (pL [23, 26, 27, 28, 29, 31, 35]) S S1 ∧ ClI S1 A (A 0 2) ∧ ∀ k, k < w → A 12 k ≠ 0 → S1.2.1 35 0 k = Int64.ofInt (alW A k)) (F := fun w S1 => run 32 0 11 [vR 30 0, vR 1 q, vR 17 r, vR 26 0, vI (nI (bN (opa A L) w)), vI (nI w)] [] S1) (Q := fun z => ∃ S' B, z = some (some (vI (nI B)), S') ∧ Fr (pL [23, 26, 27, 28, 29, 31, 35]) S S' ∧ AllP A (mayA A L) B ∧ B < 4096) (N := A 0 2) ?_ ?_ 0 S0 (by omega) ⟨a2.pl (by simp), a3, fun k hk => by omega⟩
  · intro w S1 hlt hI
    obtain ⟨i1, i2, i3⟩ := hI
    have h1 := h.pl i1 (by decide)
    have hL1 := hL.pl i1 (by decide)
    have hWw := hw.W (w := w) (by omega)
    have h2w : 2 ^ w < 2 ^ 12 := Nat.pow_lt_pow_right (by decide) (by omega)
    have ev : (nI (A 12 w)).toInt64 * 1048576 - 8192 - (nI (2 ^ w)).toInt64 = Int64.ofInt ((A 12 w : Int) * 1048576 - 8192 - 2 ^ w) := by
      rw [← ofI_n (by omega), ← ofI_n (by omega)]
      have e1 : (1048576 : Int64) = Int64.ofInt 1048576 := rfl
      have e2 : (8192 : Int64) = Int64.ofInt 8192 := rfl
      have e4 : ((2 ^ w : Nat) : Int) = 2 ^ w := by exact_mod_cast rfl
      rw [e1, e2, ← Int64.ofInt_mul, ← Int64.ofInt_sub, ← Int64.ofInt_sub, e4]
    have hset : ∀ k, k < w + 1 → A 12 k ≠ 0 → (uL S1 35 0 w ((nI (A 12 w)).toInt64 * 1048576 - 8192 - (nI (2 ^ w)).toInt64)).2.1 35 0 k = Int64.ofInt (alW A k) := by
      intro k hk hz
      rw [uL_r]
      by_cases e : k = w
      · rw [if_pos ⟨rfl, rfl, e⟩, e, ev]
        unfold alW
        rw [if_neg (by rw [← e]; exact hz)]
      · rw [if_neg (by omega)]
        exact i3 k (by omega) hz
    refine Or.inr ?_
    show ∃ s', _ ∧ run 32 0 11 _ _ _ = run 32 0 11 _ _ _
    rw [s32_11]
    by_cases c1 : A 12 w = 0
    · have e := bN_f (P := opa A L) (i := w) (by simp [opa, c1])
      refine ⟨uL S1 35 0 w ((nI (A 12 w)).toInt64 * 1048576 - 8192 - (nI (2 ^ w)).toInt64), ⟨i1.uL rfl, i2, hset⟩, ?_⟩
      rw [e]
      have c0 : nI (A 12 w) = nI 0 := by rw [c1]
      simp (disch := omega) only [s32_0, s32_1, s32_2, s32_5, s32_6, s32_8, s32_9, s32_13, s32_14, s32_17, s32_20, s32_21, s32_24, s32_26, s32_27, s32_30, s32_32, s32_33, s32_34, s32_37, s32_38, s32_41, s32_42, s32_43, s32_45, s32_46, s32_47, s32_48, s32_49, s32_50, s32_53, s32_55, s32_56, s32_59, s32_60, s32_61, s32_62, s32_64, s32_67, s32_70, s32_72, s32_73, s32_75, s32_76, s32_77, s32_79, s32_82, s32_85, s32_87, s32_88, s32_91, s32_92, s32_95, s32_96, s32_99, s32_100, s32_103, s32_104, s32_105, q_0, q_1, q_2, q_3, q_4, q_5, q_6, q_7, q_8, q_9, q_10, q_11, q_12, q_13, q_14, q_16, q_20, q_23, q_24, q_32, q_42, q_43, q_45, q_47, q_48, q_50, q_57, q_59, q_60, q_61, q_62, q_63, q_64, q_66, q_91, q_93, q_97, q_99, q_122, q_144, q_255, q_256, q_300, q_380, q_400, q_620, q_999, q_1000, q_4095, q_4096, q_9999, q_65536, q_99999, q_31, nI_add, pk_mul, nE, nL, nT, nM31, nShl, ib_nI, nI_clamp, bI_n0, bI_n1, bI_nar, uI_r, uI_l, uL_r, uL_i, uL_p, uA_r, uA_l, bV_some, bU_some, nar_n0, nar_n1, and_self, and_true, true_and, and_false, false_and, if_true, if_false, eq_self, Bool.false_eq_true, Bool.true_eq_false, not_true_eq_false, not_false_eq_true, ↓reduceIte, nlT, nlF, ntT, ntF, neT, neF, ieT, ieF, decide_true, decide_false, Bool.not_true, Bool.not_false, Bool.and_true, Bool.true_and, Bool.and_false, Bool.false_and, Bool.or_true, Bool.true_or, Bool.or_false, Bool.false_or, h1.wk, h1.wo]
    · have h2 : RepC (uL S1 35 0 w ((nI (A 12 w)).toInt64 * 1048576 - 8192 - (nI (2 ^ w)).toInt64)) q A := h1
      have hL2 : RepLC (uL S1 35 0 w ((nI (A 12 w)).toInt64 * 1048576 - 8192 - (nI (2 ^ w)).toInt64)) r L := hL1
      obtain ⟨S2, b1, b2, _⟩ := x_canBe h2 hw hL2 hl hlt
      refine ⟨S2, ⟨(i1.uL rfl).tr (b2.pl (by simp)), fun k hk => ?_, fun k hk hz => ?_⟩, ?_⟩
      · rw [b2.i rfl]
        exact i2 k hk
      · rw [b2.l rfl]
        exact hset k hk hz
      · cases c2 : caB A L w with
        | false =>
          have e := bN_f (P := opa A L) (i := w) (by simp [opa, c2])
          rw [c2] at b1
          rw [e]
          simp (disch := omega) only [s32_0, s32_1, s32_2, s32_5, s32_6, s32_8, s32_9, s32_13, s32_14, s32_17, s32_20, s32_21, s32_24, s32_26, s32_27, s32_30, s32_32, s32_33, s32_34, s32_37, s32_38, s32_41, s32_42, s32_43, s32_45, s32_46, s32_47, s32_48, s32_49, s32_50, s32_53, s32_55, s32_56, s32_59, s32_60, s32_61, s32_62, s32_64, s32_67, s32_70, s32_72, s32_73, s32_75, s32_76, s32_77, s32_79, s32_82, s32_85, s32_87, s32_88, s32_91, s32_92, s32_95, s32_96, s32_99, s32_100, s32_103, s32_104, s32_105, q_0, q_1, q_2, q_3, q_4, q_5, q_6, q_7, q_8, q_9, q_10, q_11, q_12, q_13, q_14, q_16, q_20, q_23, q_24, q_32, q_42, q_43, q_45, q_47, q_48, q_50, q_57, q_59, q_60, q_61, q_62, q_63, q_64, q_66, q_91, q_93, q_97, q_99, q_122, q_144, q_255, q_256, q_300, q_380, q_400, q_620, q_999, q_1000, q_4095, q_4096, q_9999, q_65536, q_99999, q_31, nI_add, pk_mul, nE, nL, nT, nM31, nShl, ib_nI, nI_clamp, bI_n0, bI_n1, bI_nar, uI_r, uI_l, uL_r, uL_i, uL_p, uA_r, uA_l, bV_some, bU_some, nar_n0, nar_n1, and_self, and_true, true_and, and_false, false_and, if_true, if_false, eq_self, Bool.false_eq_true, Bool.true_eq_false, not_true_eq_false, not_false_eq_true, ↓reduceIte, nlT, nlF, ntT, ntF, neT, neF, ieT, ieF, decide_true, decide_false, Bool.not_true, Bool.not_false, Bool.and_true, Bool.true_and, Bool.and_false, Bool.false_and, Bool.or_true, Bool.true_or, Bool.or_false, Bool.false_or, h1.wk, h1.wo, b1, uL_i]
        | true =>
          have e := bN_t (P := opa A L) (i := w) (by simp [opa, c2, c1])
          rw [c2] at b1
          rw [e]
          simp (disch := omega) only [s32_0, s32_1, s32_2, s32_5, s32_6, s32_8, s32_9, s32_13, s32_14, s32_17, s32_20, s32_21, s32_24, s32_26, s32_27, s32_30, s32_32, s32_33, s32_34, s32_37, s32_38, s32_41, s32_42, s32_43, s32_45, s32_46, s32_47, s32_48, s32_49, s32_50, s32_53, s32_55, s32_56, s32_59, s32_60, s32_61, s32_62, s32_64, s32_67, s32_70, s32_72, s32_73, s32_75, s32_76, s32_77, s32_79, s32_82, s32_85, s32_87, s32_88, s32_91, s32_92, s32_95, s32_96, s32_99, s32_100, s32_103, s32_104, s32_105, q_0, q_1, q_2, q_3, q_4, q_5, q_6, q_7, q_8, q_9, q_10, q_11, q_12, q_13, q_14, q_16, q_20, q_23, q_24, q_32, q_42, q_43, q_45, q_47, q_48, q_50, q_57, q_59, q_60, q_61, q_62, q_63, q_64, q_66, q_91, q_93, q_97, q_99, q_122, q_144, q_255, q_256, q_300, q_380, q_400, q_620, q_999, q_1000, q_4095, q_4096, q_9999, q_65536, q_99999, q_31, nI_add, pk_mul, nE, nL, nT, nM31, nShl, ib_nI, nI_clamp, bI_n0, bI_n1, bI_nar, uI_r, uI_l, uL_r, uL_i, uL_p, uA_r, uA_l, bV_some, bU_some, nar_n0, nar_n1, and_self, and_true, true_and, and_false, false_and, if_true, if_false, eq_self, Bool.false_eq_true, Bool.true_eq_false, not_true_eq_false, not_false_eq_true, ↓reduceIte, nlT, nlF, ntT, ntF, neT, neF, ieT, ieF, decide_true, decide_false, Bool.not_true, Bool.not_false, Bool.and_true, Bool.true_and, Bool.and_false, Bool.false_and, Bool.or_true, Bool.true_or, Bool.or_false, Bool.false_or, h1.wk, h1.wo, b1, uL_i, nx_or]
  · intro S1 hI
    obtain ⟨i1, i2, i3⟩ := hI
    have h1 := h.pl i1 (by decide)
    have hs : bN (opa A L) (A 0 2) < 2 ^ A 0 2 := bN_lt _ _
    obtain ⟨B, k1, k2, k3⟩ := all_c (L := L) hw
    have eb := x_best (S := S1) (v := alW A) (C := clS A) (U := bN (opa A L) (A 0 2)) hWk (fun k hk => (al_b hw (by omega)).1) (fun k hk => (al_b hw (by omega)).2) (fun k _ => clS_lt hw k) (fun k hk hb => i3 k hk (by
      rw [bN_bit] at hb
      unfold opa at hb
      simp only [Bool.and_eq_true, Bool.not_eq_true', beq_eq_false_iff_ne] at hb
      exact hb.2.1)) (fun k hk => i2 k hk) 12 (bN (opa A L) (A 0 2)) 0 16 (fun i h => h) hs (ct_le _ _) (by omega) (by omega)
    have b0 : 0 ≤ bsI (alW A) (clS A) 12 (bN (opa A L) (A 0 2)) := bsI_lo (v := alW A) hWk (fun k hk => (al_b hw (by omega)).1) hs
    have b9 : bsI (alW A) (clS A) 12 (bN (opa A L) (A 0 2)) ≤ 12 * 2 ^ 36 := bsI_hi (v := alW A) hWk (fun k hk => (al_b hw (by omega)).2) hs
    have em := al_mask b0 (by omega) k2 k3
    show ∃ S' B, run 32 0 11 [vR 30 0, vR 1 q, vR 17 r, vR 26 0, vI (nI (bN (opa A L) (A 0 2))), vI (nI (A 0 2))] [] S1 = _ ∧ _
    rw [s32_11]
    simp (disch := omega) only [s32_0, s32_1, s32_2, s32_5, s32_6, s32_8, s32_9, s32_13, s32_14, s32_17, s32_20, s32_21, s32_24, s32_26, s32_27, s32_30, s32_32, s32_33, s32_34, s32_37, s32_38, s32_41, s32_42, s32_43, s32_45, s32_46, s32_47, s32_48, s32_49, s32_50, s32_53, s32_55, s32_56, s32_59, s32_60, s32_61, s32_62, s32_64, s32_67, s32_70, s32_72, s32_73, s32_75, s32_76, s32_77, s32_79, s32_82, s32_85, s32_87, s32_88, s32_91, s32_92, s32_95, s32_96, s32_99, s32_100, s32_103, s32_104, s32_105, q_0, q_1, q_2, q_3, q_4, q_5, q_6, q_7, q_8, q_9, q_10, q_11, q_12, q_13, q_14, q_16, q_20, q_23, q_24, q_32, q_42, q_43, q_45, q_47, q_48, q_50, q_57, q_59, q_60, q_61, q_62, q_63, q_64, q_66, q_91, q_93, q_97, q_99, q_122, q_144, q_255, q_256, q_300, q_380, q_400, q_620, q_999, q_1000, q_4095, q_4096, q_9999, q_65536, q_99999, q_31, nI_add, pk_mul, nE, nL, nT, nM31, nShl, ib_nI, nI_clamp, bI_n0, bI_n1, bI_nar, uI_r, uI_l, uL_r, uL_i, uL_p, uA_r, uA_l, bV_some, bU_some, nar_n0, nar_n1, and_self, and_true, true_and, and_false, false_and, if_true, if_false, eq_self, Bool.false_eq_true, Bool.true_eq_false, not_true_eq_false, not_false_eq_true, ↓reduceIte, nlT, nlF, ntT, ntF, neT, neF, ieT, ieF, decide_true, decide_false, Bool.not_true, Bool.not_false, Bool.and_true, Bool.true_and, Bool.and_false, Bool.false_and, Bool.or_true, Bool.true_or, Bool.or_false, Bool.false_or, h1.wk, eb, em]
    exact ⟨_, B, rfl, i1, k1, k2⟩
def AlV (A : Tn) (R : Rs) (l x v : Int32) : Prop := if (lsB l R.2.1.1 && lsB x 2) = true then ∃ B, AllP A (mayA A (R.2.1.2 l.toNatClampNeg)) B ∧ v = (if x = nI 0 then nI B else nI (wsN A B)) else v = -nI 1
theorem AlV.uniq {A : Tn} {R : Rs} {l x v v' : Int32} (h : AlV A R l x v) (h' : AlV A R l x v') : v = v' := by
  unfold AlV at h h'
  split at h
  · rename_i c
    rw [if_pos c] at h'
    obtain ⟨B, b1, b2⟩ := h
    obtain ⟨B', b1', b2'⟩ := h'
    rw [b2, b2', b1.uniq b1']
  · rename_i c
    rw [if_neg c] at h'
    rw [h, h']
theorem c_all {S : Sto} {A : Tn} {R : Rs} (h : RepC S 0 A) (hr : ResC S R) (hw : WF A) (hR : WFR R) (l x : Int32) : ∃ S1 v, call 120 0 [vR 0 0, vI l, vI x] S = some (some (vI v), S1) ∧ FC S S1 ∧ RepC S1 0 A ∧ AlV A R l x v := by
  have hWk := hw.wk
  have hR6 := hR.2.1.1
  show ∃ S1 v, run 120 0 0 [vR 0 0, vI l, vI x, vU] [] S = _ ∧ _
  unfold AlV
  cases e1 : lsB l R.2.1.1 with
  | false =>
    simp (disch := omega) only [s120_0, s120_1, s120_2, s120_5, s120_8, s120_9, s120_10, s120_13, s120_16, s120_17, s120_18, s120_19, s120_22, s120_23, s120_26, s120_27, s120_30, s120_31, s120_32, s120_33, s120_36, s120_39, s120_40, s120_41, s120_44, s120_45, s120_48, s120_49, s120_52, s120_53, s120_56, q_0, q_1, q_2, q_3, q_4, q_5, q_6, q_7, q_8, q_9, q_10, q_11, q_12, q_13, q_14, q_16, q_20, q_23, q_24, q_32, q_42, q_43, q_45, q_47, q_48, q_50, q_57, q_59, q_60, q_61, q_62, q_63, q_64, q_66, q_91, q_93, q_97, q_99, q_122, q_144, q_255, q_256, q_300, q_380, q_400, q_620, q_999, q_1000, q_4095, q_4096, q_9999, q_65536, q_99999, q_31, nI_add, pk_mul, nE, nL, nT, nM31, nShl, ib_nI, nI_clamp, bI_n0, bI_n1, bI_nar, uI_r, uI_l, uL_r, uL_i, uL_p, uA_r, uA_l, bV_some, bU_some, nar_n0, nar_n1, and_self, and_true, true_and, and_false, false_and, if_true, if_false, eq_self, Bool.false_eq_true, Bool.true_eq_false, not_true_eq_false, not_false_eq_true, ↓reduceIte, nlT, nlF, ntT, ntF, neT, neF, ieT, ieF, decide_true, decide_false, Bool.not_true, Bool.not_false, Bool.and_true, Bool.true_and, Bool.and_false, Bool.false_and, Bool.or_true, Bool.true_or, Bool.or_false, Bool.false_or, x_isLw hr, e1]
    exact ⟨_, _, rfl, FC.rf, h, rfl⟩
  | true =>
    have e1' := e1
    obtain ⟨r, hr', rfl⟩ := lsB_t e1 (by omega)
    cases e2 : lsB x 2 with
    | false =>
      simp (disch := omega) only [s120_0, s120_1, s120_2, s120_5, s120_8, s120_9, s120_10, s120_13, s120_16, s120_17, s120_18, s120_19, s120_22, s120_23, s120_26, s120_27, s120_30, s120_31, s120_32, s120_33, s120_36, s120_39, s120_40, s120_41, s120_44, s120_45, s120_48, s120_49, s120_52, s120_53, s120_56, q_0, q_1, q_2, q_3, q_4, q_5, q_6, q_7, q_8, q_9, q_10, q_11, q_12, q_13, q_14, q_16, q_20, q_23, q_24, q_32, q_42, q_43, q_45, q_47, q_48, q_50, q_57, q_59, q_60, q_61, q_62, q_63, q_64, q_66, q_91, q_93, q_97, q_99, q_122, q_144, q_255, q_256, q_300, q_380, q_400, q_620, q_999, q_1000, q_4095, q_4096, q_9999, q_65536, q_99999, q_31, nI_add, pk_mul, nE, nL, nT, nM31, nShl, ib_nI, nI_clamp, bI_n0, bI_n1, bI_nar, uI_r, uI_l, uL_r, uL_i, uL_p, uA_r, uA_l, bV_some, bU_some, nar_n0, nar_n1, and_self, and_true, true_and, and_false, false_and, if_true, if_false, eq_self, Bool.false_eq_true, Bool.true_eq_false, not_true_eq_false, not_false_eq_true, ↓reduceIte, nlT, nlF, ntT, ntF, neT, neF, ieT, ieF, decide_true, decide_false, Bool.not_true, Bool.not_false, Bool.and_true, Bool.true_and, Bool.and_false, Bool.false_and, Bool.or_true, Bool.true_or, Bool.or_false, Bool.false_or, x_isLw hr, e1', x_in, e2]
      exact ⟨_, _, rfl, FC.rf, h, rfl⟩
    | true =>
      have e2' := e2
      obtain ⟨k, hk, rfl⟩ := lsB_t e2 (by decide)
      obtain ⟨S1, B, a1, a2, a3, a4⟩ := x_greatestSet h hw (hr.2.1.2 r hr') (hR.2.1.2 r hr')
      have h1 := h.pl a2 (by decide)
      have ew : call 84 0 [vR 1 0, vI (nI B)] S1 = some (some (vI (nI (wsN A B))), S1) := x_worthOfSet_A h1 hw (by omega)
      rw [nI_clamp (by omega)]
      by_cases c : k = 0
      · subst c
        simp (disch := omega) only [s120_0, s120_1, s120_2, s120_5, s120_8, s120_9, s120_10, s120_13, s120_16, s120_17, s120_18, s120_19, s120_22, s120_23, s120_26, s120_27, s120_30, s120_31, s120_32, s120_33, s120_36, s120_39, s120_40, s120_41, s120_44, s120_45, s120_48, s120_49, s120_52, s120_53, s120_56, q_0, q_1, q_2, q_3, q_4, q_5, q_6, q_7, q_8, q_9, q_10, q_11, q_12, q_13, q_14, q_16, q_20, q_23, q_24, q_32, q_42, q_43, q_45, q_47, q_48, q_50, q_57, q_59, q_60, q_61, q_62, q_63, q_64, q_66, q_91, q_93, q_97, q_99, q_122, q_144, q_255, q_256, q_300, q_380, q_400, q_620, q_999, q_1000, q_4095, q_4096, q_9999, q_65536, q_99999, q_31, nI_add, pk_mul, nE, nL, nT, nM31, nShl, ib_nI, nI_clamp, bI_n0, bI_n1, bI_nar, uI_r, uI_l, uL_r, uL_i, uL_p, uA_r, uA_l, bV_some, bU_some, nar_n0, nar_n1, and_self, and_true, true_and, and_false, false_and, if_true, if_false, eq_self, Bool.false_eq_true, Bool.true_eq_false, not_true_eq_false, not_false_eq_true, ↓reduceIte, nlT, nlF, ntT, ntF, neT, neF, ieT, ieF, decide_true, decide_false, Bool.not_true, Bool.not_false, Bool.and_true, Bool.true_and, Bool.and_false, Bool.false_and, Bool.or_true, Bool.true_or, Bool.or_false, Bool.false_or, x_isLw hr, e1', x_in, e2', a1, Nat.zero_add]
        exact ⟨_, _, rfl, FC.pl a2 (by decide), h1, B, a3, rfl⟩
      · simp (disch := omega) only [s120_0, s120_1, s120_2, s120_5, s120_8, s120_9, s120_10, s120_13, s120_16, s120_17, s120_18, s120_19, s120_22, s120_23, s120_26, s120_27, s120_30, s120_31, s120_32, s120_33, s120_36, s120_39, s120_40, s120_41, s120_44, s120_45, s120_48, s120_49, s120_52, s120_53, s120_56, q_0, q_1, q_2, q_3, q_4, q_5, q_6, q_7, q_8, q_9, q_10, q_11, q_12, q_13, q_14, q_16, q_20, q_23, q_24, q_32, q_42, q_43, q_45, q_47, q_48, q_50, q_57, q_59, q_60, q_61, q_62, q_63, q_64, q_66, q_91, q_93, q_97, q_99, q_122, q_144, q_255, q_256, q_300, q_380, q_400, q_620, q_999, q_1000, q_4095, q_4096, q_9999, q_65536, q_99999, q_31, nI_add, pk_mul, nE, nL, nT, nM31, nShl, ib_nI, nI_clamp, bI_n0, bI_n1, bI_nar, uI_r, uI_l, uL_r, uL_i, uL_p, uA_r, uA_l, bV_some, bU_some, nar_n0, nar_n1, and_self, and_true, true_and, and_false, false_and, if_true, if_false, eq_self, Bool.false_eq_true, Bool.true_eq_false, not_true_eq_false, not_false_eq_true, ↓reduceIte, nlT, nlF, ntT, ntF, neT, neF, ieT, ieF, decide_true, decide_false, Bool.not_true, Bool.not_false, Bool.and_true, Bool.true_and, Bool.and_false, Bool.false_and, Bool.or_true, Bool.true_or, Bool.or_false, Bool.false_or, x_isLw hr, e1', x_in, e2', a1, Nat.zero_add, c, ew]
        exact ⟨_, _, rfl, FC.pl a2 (by decide), h1, B, a3, rfl⟩
theorem df_gt {a b : Nat} (ha : a < 2 ^ 30) (hb : b < 2 ^ 30) : (nI 0 < nI a - nI b) = (b < a) := by
  apply propext
  rw [Int32.lt_iff_toInt_lt, pk_sub_toInt ha hb, nI_toInt (by decide)]
  omega
theorem df_le {a b : Nat} (ha : a < 2 ^ 30) (hb : b < 2 ^ 30) : (nI a - nI b ≤ nI 0) = (a ≤ b) := by
  apply propext
  rw [Int32.le_iff_toInt_le, pk_sub_toInt ha hb, nI_toInt (by decide)]
  omega
theorem df_eq {a b : Nat} (ha : a < 2 ^ 30) (hb : b < 2 ^ 30) : (nI a - nI b = nI 0) = (a = b) := by
  apply propext
  rw [← Int32.toInt_inj, pk_sub_toInt ha hb, nI_toInt (by decide)]
  omega
theorem r_all {S : Sto} {A : Tn} {R : Rs} (h : RepM S A) (hr : ResM S R) (hw : WF A) (hR : WFR R) (l x : Int32) : ∃ S1 v, call 226 0 [vR 50 0, vI l, vI x] S = some (some (vI v), S1) ∧ FM S S1 ∧ RepM S1 A ∧ AlV A R l x v := by
  have hWk := hw.wk
  have hR6 := hR.2.1.1
  have hM1 := Nat.two_pow_pos (A 0 2)
  have hM12 : 2 ^ A 0 2 ≤ 2 ^ 12 := Nat.pow_le_pow_right (by decide) hWk
  show ∃ S1 v, run 226 0 0 [vR 50 0, vI l, vI x, vU, vU, vU, vU] [] S = _ ∧ _
  unfold AlV
  cases e1 : lsB l R.2.1.1 with
  | false =>
    simp (disch := omega) only [s226_0, s226_1, s226_2, s226_5, s226_8, s226_9, s226_10, s226_11, s226_12, s226_15, s226_18, s226_19, s226_20, s226_21, s226_22, s226_23, s226_27, s226_28, s226_31, s226_32, s226_33, s226_36, s226_37, s226_38, s226_39, s226_41, s226_44, s226_47, s226_48, s226_50, s226_51, s226_54, s226_55, s226_56, s226_57, s226_60, s226_63, s226_64, s226_67, s226_68, s226_70, s226_71, s226_75, s226_76, s226_77, s226_80, s226_81, s226_82, s226_83, s226_86, s226_88, s226_89, s226_90, s226_91, s226_92, s226_95, s226_96, s226_99, s226_101, s226_102, s226_105, s226_106, s226_108, s226_111, s226_112, s226_114, s226_117, s226_118, s226_120, s226_122, s226_125, s226_127, s226_130, s226_132, s226_135, s226_137, s226_140, s226_143, s226_145, s226_148, s226_150, s226_152, s226_155, s226_158, s226_159, s226_162, s226_164, s226_167, s226_168, s226_170, s226_173, q_0, q_1, q_2, q_3, q_4, q_5, q_6, q_7, q_8, q_9, q_10, q_11, q_12, q_13, q_14, q_16, q_20, q_23, q_24, q_32, q_42, q_43, q_45, q_47, q_48, q_50, q_57, q_59, q_60, q_61, q_62, q_63, q_64, q_66, q_91, q_93, q_97, q_99, q_122, q_144, q_255, q_256, q_300, q_380, q_400, q_620, q_999, q_1000, q_4095, q_4096, q_9999, q_65536, q_99999, q_31, nI_add, pk_mul, nE, nL, nT, nM31, nShl, ib_nI, nI_clamp, bI_n0, bI_n1, bI_nar, uI_r, uI_l, uL_r, uL_i, uL_p, uA_r, uA_l, bV_some, bU_some, nar_n0, nar_n1, and_self, and_true, true_and, and_false, false_and, if_true, if_false, eq_self, Bool.false_eq_true, Bool.true_eq_false, not_true_eq_false, not_false_eq_true, ↓reduceIte, nlT, nlF, ntT, ntF, neT, neF, ieT, ieF, decide_true, decide_false, Bool.not_true, Bool.not_false, Bool.and_true, Bool.true_and, Bool.and_false, Bool.false_and, Bool.or_true, Bool.true_or, Bool.or_false, Bool.false_or, m_isLw hr hR6, e1]
    exact ⟨_, _, rfl, FM.rf, h, rfl⟩
  | true =>
    have e1' := e1
    obtain ⟨r, hr', rfl⟩ := lsB_t e1 (by omega)
    cases e2 : lsB x 2 with
    | false =>
      simp (disch := omega) only [s226_0, s226_1, s226_2, s226_5, s226_8, s226_9, s226_10, s226_11, s226_12, s226_15, s226_18, s226_19, s226_20, s226_21, s226_22, s226_23, s226_27, s226_28, s226_31, s226_32, s226_33, s226_36, s226_37, s226_38, s226_39, s226_41, s226_44, s226_47, s226_48, s226_50, s226_51, s226_54, s226_55, s226_56, s226_57, s226_60, s226_63, s226_64, s226_67, s226_68, s226_70, s226_71, s226_75, s226_76, s226_77, s226_80, s226_81, s226_82, s226_83, s226_86, s226_88, s226_89, s226_90, s226_91, s226_92, s226_95, s226_96, s226_99, s226_101, s226_102, s226_105, s226_106, s226_108, s226_111, s226_112, s226_114, s226_117, s226_118, s226_120, s226_122, s226_125, s226_127, s226_130, s226_132, s226_135, s226_137, s226_140, s226_143, s226_145, s226_148, s226_150, s226_152, s226_155, s226_158, s226_159, s226_162, s226_164, s226_167, s226_168, s226_170, s226_173, q_0, q_1, q_2, q_3, q_4, q_5, q_6, q_7, q_8, q_9, q_10, q_11, q_12, q_13, q_14, q_16, q_20, q_23, q_24, q_32, q_42, q_43, q_45, q_47, q_48, q_50, q_57, q_59, q_60, q_61, q_62, q_63, q_64, q_66, q_91, q_93, q_97, q_99, q_122, q_144, q_255, q_256, q_300, q_380, q_400, q_620, q_999, q_1000, q_4095, q_4096, q_9999, q_65536, q_99999, q_31, nI_add, pk_mul, nE, nL, nT, nM31, nShl, ib_nI, nI_clamp, bI_n0, bI_n1, bI_nar, uI_r, uI_l, uL_r, uL_i, uL_p, uA_r, uA_l, bV_some, bU_some, nar_n0, nar_n1, and_self, and_true, true_and, and_false, false_and, if_true, if_false, eq_self, Bool.false_eq_true, Bool.true_eq_false, not_true_eq_false, not_false_eq_true, ↓reduceIte, nlT, nlF, ntT, ntF, neT, neF, ieT, ieF, decide_true, decide_false, Bool.not_true, Bool.not_false, Bool.and_true, Bool.true_and, Bool.and_false, Bool.false_and, Bool.or_true, Bool.true_or, Bool.or_false, Bool.false_or, m_isLw hr hR6, e1', min_1, min_2, min_3, min_20, min_60, min_99, min_999, min_9999, min_99999, e2]
      exact ⟨_, _, rfl, FM.rf, h, rfl⟩
    | true =>
      have e2' := e2
      obtain ⟨k, hk, rfl⟩ := lsB_t e2 (by decide)
      rw [nI_clamp (by omega)]
      have hl := hR.2.1.2 r hr'
      have hL := hr.2.1.2 r hr'
      have L2 : ∀ S0, Fr (pL [76, 77]) S S0 → ∃ S1 v, run 226 0 63 [vR 50 0, vI (nI r), vI (nI k), vI (nI (mayA A (R.2.1.2 r))), vI (nI (A 0 2)), vU, vU] [] S0 = some (some (vI v), S1) ∧ FM S S1 ∧ RepM S1 A ∧ ∃ B, AllP A (mayA A (R.2.1.2 r)) B ∧ v = (if k = 0 then nI B else nI (wsN A B)) := by
        intro S0 f0
        have h0 := h.pl f0 (by decide)
        obtain ⟨S1, a1, a2, a3⟩ := m_apart h0 hw
        have h1 := h0.pl a2 (by decide)
        have hF : FM S S1 := (FM.pl f0 (by decide)).tr (FM.pl a2 (by decide))
        simp (disch := omega) only [s226_0, s226_1, s226_2, s226_5, s226_8, s226_9, s226_10, s226_11, s226_12, s226_15, s226_18, s226_19, s226_20, s226_21, s226_22, s226_23, s226_27, s226_28, s226_31, s226_32, s226_33, s226_36, s226_37, s226_38, s226_39, s226_41, s226_44, s226_47, s226_48, s226_50, s226_51, s226_54, s226_55, s226_56, s226_57, s226_60, s226_63, s226_64, s226_67, s226_68, s226_70, s226_71, s226_75, s226_76, s226_77, s226_80, s226_81, s226_82, s226_83, s226_86, s226_88, s226_89, s226_90, s226_91, s226_92, s226_95, s226_96, s226_99, s226_101, s226_102, s226_105, s226_106, s226_108, s226_111, s226_112, s226_114, s226_117, s226_118, s226_120, s226_122, s226_125, s226_127, s226_130, s226_132, s226_135, s226_137, s226_140, s226_143, s226_145, s226_148, s226_150, s226_152, s226_155, s226_158, s226_159, s226_162, s226_164, s226_167, s226_168, s226_170, s226_173, q_0, q_1, q_2, q_3, q_4, q_5, q_6, q_7, q_8, q_9, q_10, q_11, q_12, q_13, q_14, q_16, q_20, q_23, q_24, q_32, q_42, q_43, q_45, q_47, q_48, q_50, q_57, q_59, q_60, q_61, q_62, q_63, q_64, q_66, q_91, q_93, q_97, q_99, q_122, q_144, q_255, q_256, q_300, q_380, q_400, q_620, q_999, q_1000, q_4095, q_4096, q_9999, q_65536, q_99999, q_31, nI_add, pk_mul, nE, nL, nT, nM31, nShl, ib_nI, nI_clamp, bI_n0, bI_n1, bI_nar, uI_r, uI_l, uL_r, uL_i, uL_p, uA_r, uA_l, bV_some, bU_some, nar_n0, nar_n1, and_self, and_true, true_and, and_false, false_and, if_true, if_false, eq_self, Bool.false_eq_true, Bool.true_eq_false, not_true_eq_false, not_false_eq_true, ↓reduceIte, nlT, nlF, ntT, ntF, neT, neF, ieT, ieF, decide_true, decide_false, Bool.not_true, Bool.not_false, Bool.and_true, Bool.true_and, Bool.and_false, Bool.false_and, Bool.or_true, Bool.true_or, Bool.or_false, Bool.false_or, a1]
        refine upS (σ := Nat × av) (I := fun s p => 1 ≤ s ∧ p.1 < s ∧ Sub p.1 (mayA A (R.2.1.2 r)) ∧ apB A p.1 = true ∧ ∀ X, X < s → Sub X (mayA A (R.2.1.2 r)) → apB A X = true → lexL A X p.1) (F := fun s p => run 226 0 73 [vR 50 0, vI (nI r), vI (nI k), vI (nI (mayA A (R.2.1.2 r))), vI (nI p.1), vI (nI s), p.2] [] S1) (Q := fun z => ∃ S1 v, z = some (some (vI v), S1) ∧ FM S S1 ∧ RepM S1 A ∧ ∃ B, AllP A (mayA A (R.2.1.2 r)) B ∧ v = (if k = 0 then nI B else nI (wsN A B))) (N := 2 ^ A 0 2) ?_ ?_ 1 (0, vU) (by omega) ⟨by omega, by show 0 < 1; omega, fun i hi => by simp at hi, apB_t.mpr (fun a b _ _ h1 => by simp at h1), fun X hX _ _ => ?_⟩
        · intro s p hs hI
          obtain ⟨B, y⟩ := p
          obtain ⟨i0, i1, i2, i3, i4⟩ := hI
          simp only at i1 i2 i3 i4
          have r1 := a3 s hs
          have ld := dif_lt s (mayA A (R.2.1.2 r))
          have w1 := m_worthOf h1 hw (m := s) (by omega)
          have w2 := m_worthOf h1 hw (m := B) (by omega)
          have l1 := wsN_le hw s
          have l2 := wsN_le hw B
          have p1 := pop_le s
          have p2 := pop_le B
          refine Or.inr ?_
          show ∃ s', _ ∧ run 226 0 73 [vR 50 0, vI (nI r), vI (nI k), vI (nI (mayA A (R.2.1.2 r))), vI (nI B), vI (nI s), y] [] S1 = _
          rw [s226_73]
          by_cases c1 : dif s (mayA A (R.2.1.2 r)) = 0
          · have c1' := (dif_0 (by omega)).mp c1
            cases c2 : apB A s with
            | false =>
              rw [c2] at r1
              refine ⟨(B, y), ⟨by omega, by show B < s + 1; omega, i2, i3, fun X hX hs2 hap => ?_⟩, ?_⟩
              · by_cases e : X = s
                · rw [e, c2] at hap; cases hap
                · exact i4 X (by omega) hs2 hap
              · simp (disch := omega) only [s226_0, s226_1, s226_2, s226_5, s226_8, s226_9, s226_10, s226_11, s226_12, s226_15, s226_18, s226_19, s226_20, s226_21, s226_22, s226_23, s226_27, s226_28, s226_31, s226_32, s226_33, s226_36, s226_37, s226_38, s226_39, s226_41, s226_44, s226_47, s226_48, s226_50, s226_51, s226_54, s226_55, s226_56, s226_57, s226_60, s226_63, s226_64, s226_67, s226_68, s226_70, s226_71, s226_75, s226_76, s226_77, s226_80, s226_81, s226_82, s226_83, s226_86, s226_88, s226_89, s226_90, s226_91, s226_92, s226_95, s226_96, s226_99, s226_101, s226_102, s226_105, s226_106, s226_108, s226_111, s226_112, s226_114, s226_117, s226_118, s226_120, s226_122, s226_125, s226_127, s226_130, s226_132, s226_135, s226_137, s226_140, s226_143, s226_145, s226_148, s226_150, s226_152, s226_155, s226_158, s226_159, s226_162, s226_164, s226_167, s226_168, s226_170, s226_173, q_0, q_1, q_2, q_3, q_4, q_5, q_6, q_7, q_8, q_9, q_10, q_11, q_12, q_13, q_14, q_16, q_20, q_23, q_24, q_32, q_42, q_43, q_45, q_47, q_48, q_50, q_57, q_59, q_60, q_61, q_62, q_63, q_64, q_66, q_91, q_93, q_97, q_99, q_122, q_144, q_255, q_256, q_300, q_380, q_400, q_620, q_999, q_1000, q_4095, q_4096, q_9999, q_65536, q_99999, q_31, nI_add, pk_mul, nE, nL, nT, nM31, nShl, ib_nI, nI_clamp, bI_n0, bI_n1, bI_nar, uI_r, uI_l, uL_r, uL_i, uL_p, uA_r, uA_l, bV_some, bU_some, nar_n0, nar_n1, and_self, and_true, true_and, and_false, false_and, if_true, if_false, eq_self, Bool.false_eq_true, Bool.true_eq_false, not_true_eq_false, not_false_eq_true, ↓reduceIte, nlT, nlF, ntT, ntF, neT, neF, ieT, ieF, decide_true, decide_false, Bool.not_true, Bool.not_false, Bool.and_true, Bool.true_and, Bool.and_false, Bool.false_and, Bool.or_true, Bool.true_or, Bool.or_false, Bool.false_or, h1.sc, nI_dif, c1, r1]
            | true =>
              rw [c2] at r1
              by_cases c3 : wsN A B < wsN A s ∨ (wsN A s = wsN A B ∧ pop s < pop B)
              · refine ⟨(s, vI (nI (wsN A s) - nI (wsN A B))), ⟨by omega, by show s < s + 1; omega, c1', c2, fun X hX hs2 hap => ?_⟩, ?_⟩
                · by_cases e : X = s
                  · rw [e]; exact Or.inr ⟨rfl, Or.inr ⟨rfl, Nat.le_refl _⟩⟩
                  · have := i4 X (by omega) hs2 hap
                    show lexL A X s
                    unfold lexL at this ⊢
                    omega
                · rcases c3 with c3 | ⟨c3, c4⟩
                  · simp (disch := omega) only [s226_0, s226_1, s226_2, s226_5, s226_8, s226_9, s226_10, s226_11, s226_12, s226_15, s226_18, s226_19, s226_20, s226_21, s226_22, s226_23, s226_27, s226_28, s226_31, s226_32, s226_33, s226_36, s226_37, s226_38, s226_39, s226_41, s226_44, s226_47, s226_48, s226_50, s226_51, s226_54, s226_55, s226_56, s226_57, s226_60, s226_63, s226_64, s226_67, s226_68, s226_70, s226_71, s226_75, s226_76, s226_77, s226_80, s226_81, s226_82, s226_83, s226_86, s226_88, s226_89, s226_90, s226_91, s226_92, s226_95, s226_96, s226_99, s226_101, s226_102, s226_105, s226_106, s226_108, s226_111, s226_112, s226_114, s226_117, s226_118, s226_120, s226_122, s226_125, s226_127, s226_130, s226_132, s226_135, s226_137, s226_140, s226_143, s226_145, s226_148, s226_150, s226_152, s226_155, s226_158, s226_159, s226_162, s226_164, s226_167, s226_168, s226_170, s226_173, q_0, q_1, q_2, q_3, q_4, q_5, q_6, q_7, q_8, q_9, q_10, q_11, q_12, q_13, q_14, q_16, q_20, q_23, q_24, q_32, q_42, q_43, q_45, q_47, q_48, q_50, q_57, q_59, q_60, q_61, q_62, q_63, q_64, q_66, q_91, q_93, q_97, q_99, q_122, q_144, q_255, q_256, q_300, q_380, q_400, q_620, q_999, q_1000, q_4095, q_4096, q_9999, q_65536, q_99999, q_31, nI_add, pk_mul, nE, nL, nT, nM31, nShl, ib_nI, nI_clamp, bI_n0, bI_n1, bI_nar, uI_r, uI_l, uL_r, uL_i, uL_p, uA_r, uA_l, bV_some, bU_some, nar_n0, nar_n1, and_self, and_true, true_and, and_false, false_and, if_true, if_false, eq_self, Bool.false_eq_true, Bool.true_eq_false, not_true_eq_false, not_false_eq_true, ↓reduceIte, nlT, nlF, ntT, ntF, neT, neF, ieT, ieF, decide_true, decide_false, Bool.not_true, Bool.not_false, Bool.and_true, Bool.true_and, Bool.and_false, Bool.false_and, Bool.or_true, Bool.true_or, Bool.or_false, Bool.false_or, h1.sc, nI_dif, c1, r1, w1, w2, df_gt, c3]
                  · have c5 : ¬ wsN A B < wsN A s := by omega
                    simp (disch := omega) only [s226_0, s226_1, s226_2, s226_5, s226_8, s226_9, s226_10, s226_11, s226_12, s226_15, s226_18, s226_19, s226_20, s226_21, s226_22, s226_23, s226_27, s226_28, s226_31, s226_32, s226_33, s226_36, s226_37, s226_38, s226_39, s226_41, s226_44, s226_47, s226_48, s226_50, s226_51, s226_54, s226_55, s226_56, s226_57, s226_60, s226_63, s226_64, s226_67, s226_68, s226_70, s226_71, s226_75, s226_76, s226_77, s226_80, s226_81, s226_82, s226_83, s226_86, s226_88, s226_89, s226_90, s226_91, s226_92, s226_95, s226_96, s226_99, s226_101, s226_102, s226_105, s226_106, s226_108, s226_111, s226_112, s226_114, s226_117, s226_118, s226_120, s226_122, s226_125, s226_127, s226_130, s226_132, s226_135, s226_137, s226_140, s226_143, s226_145, s226_148, s226_150, s226_152, s226_155, s226_158, s226_159, s226_162, s226_164, s226_167, s226_168, s226_170, s226_173, q_0, q_1, q_2, q_3, q_4, q_5, q_6, q_7, q_8, q_9, q_10, q_11, q_12, q_13, q_14, q_16, q_20, q_23, q_24, q_32, q_42, q_43, q_45, q_47, q_48, q_50, q_57, q_59, q_60, q_61, q_62, q_63, q_64, q_66, q_91, q_93, q_97, q_99, q_122, q_144, q_255, q_256, q_300, q_380, q_400, q_620, q_999, q_1000, q_4095, q_4096, q_9999, q_65536, q_99999, q_31, nI_add, pk_mul, nE, nL, nT, nM31, nShl, ib_nI, nI_clamp, bI_n0, bI_n1, bI_nar, uI_r, uI_l, uL_r, uL_i, uL_p, uA_r, uA_l, bV_some, bU_some, nar_n0, nar_n1, and_self, and_true, true_and, and_false, false_and, if_true, if_false, eq_self, Bool.false_eq_true, Bool.true_eq_false, not_true_eq_false, not_false_eq_true, ↓reduceIte, nlT, nlF, ntT, ntF, neT, neF, ieT, ieF, decide_true, decide_false, Bool.not_true, Bool.not_false, Bool.and_true, Bool.true_and, Bool.and_false, Bool.false_and, Bool.or_true, Bool.true_or, Bool.or_false, Bool.false_or, h1.sc, nI_dif, c1, r1, w1, w2, df_gt, df_eq, c5, c3, m_bits, c4, Int32.sub_self]
              · refine ⟨(B, vI (nI (wsN A s) - nI (wsN A B))), ⟨by omega, by show B < s + 1; omega, i2, i3, fun X hX hs2 hap => ?_⟩, ?_⟩
                · by_cases e : X = s
                  · rw [e]
                    show lexL A s B
                    unfold lexL
                    omega
                  · exact i4 X (by omega) hs2 hap
                · have c5 : ¬ wsN A B < wsN A s := by omega
                  by_cases c6 : wsN A s = wsN A B
                  · have c7 : ¬ pop s < pop B := by omega
                    simp (disch := omega) only [s226_0, s226_1, s226_2, s226_5, s226_8, s226_9, s226_10, s226_11, s226_12, s226_15, s226_18, s226_19, s226_20, s226_21, s226_22, s226_23, s226_27, s226_28, s226_31, s226_32, s226_33, s226_36, s226_37, s226_38, s226_39, s226_41, s226_44, s226_47, s226_48, s226_50, s226_51, s226_54, s226_55, s226_56, s226_57, s226_60, s226_63, s226_64, s226_67, s226_68, s226_70, s226_71, s226_75, s226_76, s226_77, s226_80, s226_81, s226_82, s226_83, s226_86, s226_88, s226_89, s226_90, s226_91, s226_92, s226_95, s226_96, s226_99, s226_101, s226_102, s226_105, s226_106, s226_108, s226_111, s226_112, s226_114, s226_117, s226_118, s226_120, s226_122, s226_125, s226_127, s226_130, s226_132, s226_135, s226_137, s226_140, s226_143, s226_145, s226_148, s226_150, s226_152, s226_155, s226_158, s226_159, s226_162, s226_164, s226_167, s226_168, s226_170, s226_173, q_0, q_1, q_2, q_3, q_4, q_5, q_6, q_7, q_8, q_9, q_10, q_11, q_12, q_13, q_14, q_16, q_20, q_23, q_24, q_32, q_42, q_43, q_45, q_47, q_48, q_50, q_57, q_59, q_60, q_61, q_62, q_63, q_64, q_66, q_91, q_93, q_97, q_99, q_122, q_144, q_255, q_256, q_300, q_380, q_400, q_620, q_999, q_1000, q_4095, q_4096, q_9999, q_65536, q_99999, q_31, nI_add, pk_mul, nE, nL, nT, nM31, nShl, ib_nI, nI_clamp, bI_n0, bI_n1, bI_nar, uI_r, uI_l, uL_r, uL_i, uL_p, uA_r, uA_l, bV_some, bU_some, nar_n0, nar_n1, and_self, and_true, true_and, and_false, false_and, if_true, if_false, eq_self, Bool.false_eq_true, Bool.true_eq_false, not_true_eq_false, not_false_eq_true, ↓reduceIte, nlT, nlF, ntT, ntF, neT, neF, ieT, ieF, decide_true, decide_false, Bool.not_true, Bool.not_false, Bool.and_true, Bool.true_and, Bool.and_false, Bool.false_and, Bool.or_true, Bool.true_or, Bool.or_false, Bool.false_or, h1.sc, nI_dif, c1, r1, w1, w2, df_gt, df_eq, c5, c6, m_bits, c7]
                  · simp (disch := omega) only [s226_0, s226_1, s226_2, s226_5, s226_8, s226_9, s226_10, s226_11, s226_12, s226_15, s226_18, s226_19, s226_20, s226_21, s226_22, s226_23, s226_27, s226_28, s226_31, s226_32, s226_33, s226_36, s226_37, s226_38, s226_39, s226_41, s226_44, s226_47, s226_48, s226_50, s226_51, s226_54, s226_55, s226_56, s226_57, s226_60, s226_63, s226_64, s226_67, s226_68, s226_70, s226_71, s226_75, s226_76, s226_77, s226_80, s226_81, s226_82, s226_83, s226_86, s226_88, s226_89, s226_90, s226_91, s226_92, s226_95, s226_96, s226_99, s226_101, s226_102, s226_105, s226_106, s226_108, s226_111, s226_112, s226_114, s226_117, s226_118, s226_120, s226_122, s226_125, s226_127, s226_130, s226_132, s226_135, s226_137, s226_140, s226_143, s226_145, s226_148, s226_150, s226_152, s226_155, s226_158, s226_159, s226_162, s226_164, s226_167, s226_168, s226_170, s226_173, q_0, q_1, q_2, q_3, q_4, q_5, q_6, q_7, q_8, q_9, q_10, q_11, q_12, q_13, q_14, q_16, q_20, q_23, q_24, q_32, q_42, q_43, q_45, q_47, q_48, q_50, q_57, q_59, q_60, q_61, q_62, q_63, q_64, q_66, q_91, q_93, q_97, q_99, q_122, q_144, q_255, q_256, q_300, q_380, q_400, q_620, q_999, q_1000, q_4095, q_4096, q_9999, q_65536, q_99999, q_31, nI_add, pk_mul, nE, nL, nT, nM31, nShl, ib_nI, nI_clamp, bI_n0, bI_n1, bI_nar, uI_r, uI_l, uL_r, uL_i, uL_p, uA_r, uA_l, bV_some, bU_some, nar_n0, nar_n1, and_self, and_true, true_and, and_false, false_and, if_true, if_false, eq_self, Bool.false_eq_true, Bool.true_eq_false, not_true_eq_false, not_false_eq_true, ↓reduceIte, nlT, nlF, ntT, ntF, neT, neF, ieT, ieF, decide_true, decide_false, Bool.not_true, Bool.not_false, Bool.and_true, Bool.true_and, Bool.and_false, Bool.false_and, Bool.or_true, Bool.true_or, Bool.or_false, Bool.false_or, h1.sc, nI_dif, c1, r1, w1, w2, df_gt, df_eq, c5, c6]
          · refine ⟨(B, y), ⟨by omega, by show B < s + 1; omega, i2, i3, fun X hX hs2 hap => ?_⟩, ?_⟩
            · by_cases e : X = s
              · rw [e] at hs2
                exact absurd ((dif_0 (by omega)).mpr hs2) c1
              · exact i4 X (by omega) hs2 hap
            · simp (disch := omega) only [s226_0, s226_1, s226_2, s226_5, s226_8, s226_9, s226_10, s226_11, s226_12, s226_15, s226_18, s226_19, s226_20, s226_21, s226_22, s226_23, s226_27, s226_28, s226_31, s226_32, s226_33, s226_36, s226_37, s226_38, s226_39, s226_41, s226_44, s226_47, s226_48, s226_50, s226_51, s226_54, s226_55, s226_56, s226_57, s226_60, s226_63, s226_64, s226_67, s226_68, s226_70, s226_71, s226_75, s226_76, s226_77, s226_80, s226_81, s226_82, s226_83, s226_86, s226_88, s226_89, s226_90, s226_91, s226_92, s226_95, s226_96, s226_99, s226_101, s226_102, s226_105, s226_106, s226_108, s226_111, s226_112, s226_114, s226_117, s226_118, s226_120, s226_122, s226_125, s226_127, s226_130, s226_132, s226_135, s226_137, s226_140, s226_143, s226_145, s226_148, s226_150, s226_152, s226_155, s226_158, s226_159, s226_162, s226_164, s226_167, s226_168, s226_170, s226_173, q_0, q_1, q_2, q_3, q_4, q_5, q_6, q_7, q_8, q_9, q_10, q_11, q_12, q_13, q_14, q_16, q_20, q_23, q_24, q_32, q_42, q_43, q_45, q_47, q_48, q_50, q_57, q_59, q_60, q_61, q_62, q_63, q_64, q_66, q_91, q_93, q_97, q_99, q_122, q_144, q_255, q_256, q_300, q_380, q_400, q_620, q_999, q_1000, q_4095, q_4096, q_9999, q_65536, q_99999, q_31, nI_add, pk_mul, nE, nL, nT, nM31, nShl, ib_nI, nI_clamp, bI_n0, bI_n1, bI_nar, uI_r, uI_l, uL_r, uL_i, uL_p, uA_r, uA_l, bV_some, bU_some, nar_n0, nar_n1, and_self, and_true, true_and, and_false, false_and, if_true, if_false, eq_self, Bool.false_eq_true, Bool.true_eq_false, not_true_eq_false, not_false_eq_true, ↓reduceIte, nlT, nlF, ntT, ntF, neT, neF, ieT, ieF, decide_true, decide_false, Bool.not_true, Bool.not_false, Bool.and_true, Bool.true_and, Bool.and_false, Bool.false_and, Bool.or_true, Bool.true_or, Bool.or_false, Bool.false_or, h1.sc, nI_dif, c1]
        · intro p hI
          obtain ⟨B, y⟩ := p
          obtain ⟨i0, i1, i2, i3, i4⟩ := hI
          simp only at i1 i2 i3 i4
          have w2 := m_worthOf h1 hw (m := B) (by omega)
          have hB : AllP A (mayA A (R.2.1.2 r)) B := ⟨i2, i3, fun X hX hap => i4 X (hX.lt (bN_lt _ _)) hX hap⟩
          show ∃ S1' v, run 226 0 73 [vR 50 0, vI (nI r), vI (nI k), vI (nI (mayA A (R.2.1.2 r))), vI (nI B), vI (nI (2 ^ A 0 2)), y] [] S1 = _ ∧ _
          rw [s226_73]
          by_cases c : k = 0
          · subst c
            simp (disch := omega) only [s226_0, s226_1, s226_2, s226_5, s226_8, s226_9, s226_10, s226_11, s226_12, s226_15, s226_18, s226_19, s226_20, s226_21, s226_22, s226_23, s226_27, s226_28, s226_31, s226_32, s226_33, s226_36, s226_37, s226_38, s226_39, s226_41, s226_44, s226_47, s226_48, s226_50, s226_51, s226_54, s226_55, s226_56, s226_57, s226_60, s226_63, s226_64, s226_67, s226_68, s226_70, s226_71, s226_75, s226_76, s226_77, s226_80, s226_81, s226_82, s226_83, s226_86, s226_88, s226_89, s226_90, s226_91, s226_92, s226_95, s226_96, s226_99, s226_101, s226_102, s226_105, s226_106, s226_108, s226_111, s226_112, s226_114, s226_117, s226_118, s226_120, s226_122, s226_125, s226_127, s226_130, s226_132, s226_135, s226_137, s226_140, s226_143, s226_145, s226_148, s226_150, s226_152, s226_155, s226_158, s226_159, s226_162, s226_164, s226_167, s226_168, s226_170, s226_173, q_0, q_1, q_2, q_3, q_4, q_5, q_6, q_7, q_8, q_9, q_10, q_11, q_12, q_13, q_14, q_16, q_20, q_23, q_24, q_32, q_42, q_43, q_45, q_47, q_48, q_50, q_57, q_59, q_60, q_61, q_62, q_63, q_64, q_66, q_91, q_93, q_97, q_99, q_122, q_144, q_255, q_256, q_300, q_380, q_400, q_620, q_999, q_1000, q_4095, q_4096, q_9999, q_65536, q_99999, q_31, nI_add, pk_mul, nE, nL, nT, nM31, nShl, ib_nI, nI_clamp, bI_n0, bI_n1, bI_nar, uI_r, uI_l, uL_r, uL_i, uL_p, uA_r, uA_l, bV_some, bU_some, nar_n0, nar_n1, and_self, and_true, true_and, and_false, false_and, if_true, if_false, eq_self, Bool.false_eq_true, Bool.true_eq_false, not_true_eq_false, not_false_eq_true, ↓reduceIte, nlT, nlF, ntT, ntF, neT, neF, ieT, ieF, decide_true, decide_false, Bool.not_true, Bool.not_false, Bool.and_true, Bool.true_and, Bool.and_false, Bool.false_and, Bool.or_true, Bool.true_or, Bool.or_false, Bool.false_or, h1.sc]
            exact ⟨_, _, rfl, hF, h1, B, hB, rfl⟩
          · simp (disch := omega) only [s226_0, s226_1, s226_2, s226_5, s226_8, s226_9, s226_10, s226_11, s226_12, s226_15, s226_18, s226_19, s226_20, s226_21, s226_22, s226_23, s226_27, s226_28, s226_31, s226_32, s226_33, s226_36, s226_37, s226_38, s226_39, s226_41, s226_44, s226_47, s226_48, s226_50, s226_51, s226_54, s226_55, s226_56, s226_57, s226_60, s226_63, s226_64, s226_67, s226_68, s226_70, s226_71, s226_75, s226_76, s226_77, s226_80, s226_81, s226_82, s226_83, s226_86, s226_88, s226_89, s226_90, s226_91, s226_92, s226_95, s226_96, s226_99, s226_101, s226_102, s226_105, s226_106, s226_108, s226_111, s226_112, s226_114, s226_117, s226_118, s226_120, s226_122, s226_125, s226_127, s226_130, s226_132, s226_135, s226_137, s226_140, s226_143, s226_145, s226_148, s226_150, s226_152, s226_155, s226_158, s226_159, s226_162, s226_164, s226_167, s226_168, s226_170, s226_173, q_0, q_1, q_2, q_3, q_4, q_5, q_6, q_7, q_8, q_9, q_10, q_11, q_12, q_13, q_14, q_16, q_20, q_23, q_24, q_32, q_42, q_43, q_45, q_47, q_48, q_50, q_57, q_59, q_60, q_61, q_62, q_63, q_64, q_66, q_91, q_93, q_97, q_99, q_122, q_144, q_255, q_256, q_300, q_380, q_400, q_620, q_999, q_1000, q_4095, q_4096, q_9999, q_65536, q_99999, q_31, nI_add, pk_mul, nE, nL, nT, nM31, nShl, ib_nI, nI_clamp, bI_n0, bI_n1, bI_nar, uI_r, uI_l, uL_r, uL_i, uL_p, uA_r, uA_l, bV_some, bU_some, nar_n0, nar_n1, and_self, and_true, true_and, and_false, false_and, if_true, if_false, eq_self, Bool.false_eq_true, Bool.true_eq_false, not_true_eq_false, not_false_eq_true, ↓reduceIte, nlT, nlF, ntT, ntF, neT, neF, ieT, ieF, decide_true, decide_false, Bool.not_true, Bool.not_false, Bool.and_true, Bool.true_and, Bool.and_false, Bool.false_and, Bool.or_true, Bool.true_or, Bool.or_false, Bool.false_or, h1.sc, w2, c]
            exact ⟨_, _, rfl, hF, h1, B, hB, rfl⟩
        · have e : X = 0 := by omega
          rw [e]
          exact Or.inr ⟨rfl, Or.inr ⟨rfl, Nat.le_refl _⟩⟩
      simp (disch := omega) only [s226_0, s226_1, s226_2, s226_5, s226_8, s226_9, s226_10, s226_11, s226_12, s226_15, s226_18, s226_19, s226_20, s226_21, s226_22, s226_23, s226_27, s226_28, s226_31, s226_32, s226_33, s226_36, s226_37, s226_38, s226_39, s226_41, s226_44, s226_47, s226_48, s226_50, s226_51, s226_54, s226_55, s226_56, s226_57, s226_60, s226_63, s226_64, s226_67, s226_68, s226_70, s226_71, s226_75, s226_76, s226_77, s226_80, s226_81, s226_82, s226_83, s226_86, s226_88, s226_89, s226_90, s226_91, s226_92, s226_95, s226_96, s226_99, s226_101, s226_102, s226_105, s226_106, s226_108, s226_111, s226_112, s226_114, s226_117, s226_118, s226_120, s226_122, s226_125, s226_127, s226_130, s226_132, s226_135, s226_137, s226_140, s226_143, s226_145, s226_148, s226_150, s226_152, s226_155, s226_158, s226_159, s226_162, s226_164, s226_167, s226_168, s226_170, s226_173, q_0, q_1, q_2, q_3, q_4, q_5, q_6, q_7, q_8, q_9, q_10, q_11, q_12, q_13, q_14, q_16, q_20, q_23, q_24, q_32, q_42, q_43, q_45, q_47, q_48, q_50, q_57, q_59, q_60, q_61, q_62, q_63, q_64, q_66, q_91, q_93, q_97, q_99, q_122, q_144, q_255, q_256, q_300, q_380, q_400, q_620, q_999, q_1000, q_4095, q_4096, q_9999, q_65536, q_99999, q_31, nI_add, pk_mul, nE, nL, nT, nM31, nShl, ib_nI, nI_clamp, bI_n0, bI_n1, bI_nar, uI_r, uI_l, uL_r, uL_i, uL_p, uA_r, uA_l, bV_some, bU_some, nar_n0, nar_n1, and_self, and_true, true_and, and_false, false_and, if_true, if_false, eq_self, Bool.false_eq_true, Bool.true_eq_false, not_true_eq_false, not_false_eq_true, ↓reduceIte, nlT, nlF, ntT, ntF, neT, neF, ieT, ieF, decide_true, decide_false, Bool.not_true, Bool.not_false, Bool.and_true, Bool.true_and, Bool.and_false, Bool.false_and, Bool.or_true, Bool.true_or, Bool.or_false, Bool.false_or, m_isLw hr hR6, e1', min_1, min_2, min_3, min_20, min_60, min_99, min_999, min_9999, min_99999, e2']
      refine upS (σ := Sto) (I := fun w S1 => Fr (pL [76, 77]) S S1) (F := fun w S1 => run 226 0 25 [vR 50 0, vI (nI r), vI (nI k), vI (nI (bN (caB A (R.2.1.2 r)) w)), vI (nI w), vU, vU] [] S1) (Q := fun z => ∃ S1 v, z = some (some (vI v), S1) ∧ FM S S1 ∧ RepM S1 A ∧ ∃ B, AllP A (mayA A (R.2.1.2 r)) B ∧ v = (if k = 0 then nI B else nI (wsN A B))) (N := A 0 2) ?_ ?_ 0 S (by omega) Fr.rfl'
      · intro w S1 hlt hI
        have h1 := h.pl hI (by decide)
        obtain ⟨S2, b1, b2⟩ := m_canBe h1 hw (r := r) (by omega) (hL.pl hI (by decide)) hl hlt
        refine Or.inr ⟨S2, hI.tr b2, ?_⟩
        show run 226 0 25 _ _ _ = run 226 0 25 _ _ _
        rw [s226_25]
        cases c : caB A (R.2.1.2 r) w with
        | false =>
          have e := bN_f (P := caB A (R.2.1.2 r)) (i := w) c
          rw [c] at b1
          simp (disch := omega) only [s226_0, s226_1, s226_2, s226_5, s226_8, s226_9, s226_10, s226_11, s226_12, s226_15, s226_18, s226_19, s226_20, s226_21, s226_22, s226_23, s226_27, s226_28, s226_31, s226_32, s226_33, s226_36, s226_37, s226_38, s226_39, s226_41, s226_44, s226_47, s226_48, s226_50, s226_51, s226_54, s226_55, s226_56, s226_57, s226_60, s226_63, s226_64, s226_67, s226_68, s226_70, s226_71, s226_75, s226_76, s226_77, s226_80, s226_81, s226_82, s226_83, s226_86, s226_88, s226_89, s226_90, s226_91, s226_92, s226_95, s226_96, s226_99, s226_101, s226_102, s226_105, s226_106, s226_108, s226_111, s226_112, s226_114, s226_117, s226_118, s226_120, s226_122, s226_125, s226_127, s226_130, s226_132, s226_135, s226_137, s226_140, s226_143, s226_145, s226_148, s226_150, s226_152, s226_155, s226_158, s226_159, s226_162, s226_164, s226_167, s226_168, s226_170, s226_173, q_0, q_1, q_2, q_3, q_4, q_5, q_6, q_7, q_8, q_9, q_10, q_11, q_12, q_13, q_14, q_16, q_20, q_23, q_24, q_32, q_42, q_43, q_45, q_47, q_48, q_50, q_57, q_59, q_60, q_61, q_62, q_63, q_64, q_66, q_91, q_93, q_97, q_99, q_122, q_144, q_255, q_256, q_300, q_380, q_400, q_620, q_999, q_1000, q_4095, q_4096, q_9999, q_65536, q_99999, q_31, nI_add, pk_mul, nE, nL, nT, nM31, nShl, ib_nI, nI_clamp, bI_n0, bI_n1, bI_nar, uI_r, uI_l, uL_r, uL_i, uL_p, uA_r, uA_l, bV_some, bU_some, nar_n0, nar_n1, and_self, and_true, true_and, and_false, false_and, if_true, if_false, eq_self, Bool.false_eq_true, Bool.true_eq_false, not_true_eq_false, not_false_eq_true, ↓reduceIte, nlT, nlF, ntT, ntF, neT, neF, ieT, ieF, decide_true, decide_false, Bool.not_true, Bool.not_false, Bool.and_true, Bool.true_and, Bool.and_false, Bool.false_and, Bool.or_true, Bool.true_or, Bool.or_false, Bool.false_or, h1.sc, b1, e, nx_or, Nat.or_zero]
        | true =>
          have e := bN_t (P := caB A (R.2.1.2 r)) (i := w) c
          rw [c] at b1
          simp (disch := omega) only [s226_0, s226_1, s226_2, s226_5, s226_8, s226_9, s226_10, s226_11, s226_12, s226_15, s226_18, s226_19, s226_20, s226_21, s226_22, s226_23, s226_27, s226_28, s226_31, s226_32, s226_33, s226_36, s226_37, s226_38, s226_39, s226_41, s226_44, s226_47, s226_48, s226_50, s226_51, s226_54, s226_55, s226_56, s226_57, s226_60, s226_63, s226_64, s226_67, s226_68, s226_70, s226_71, s226_75, s226_76, s226_77, s226_80, s226_81, s226_82, s226_83, s226_86, s226_88, s226_89, s226_90, s226_91, s226_92, s226_95, s226_96, s226_99, s226_101, s226_102, s226_105, s226_106, s226_108, s226_111, s226_112, s226_114, s226_117, s226_118, s226_120, s226_122, s226_125, s226_127, s226_130, s226_132, s226_135, s226_137, s226_140, s226_143, s226_145, s226_148, s226_150, s226_152, s226_155, s226_158, s226_159, s226_162, s226_164, s226_167, s226_168, s226_170, s226_173, q_0, q_1, q_2, q_3, q_4, q_5, q_6, q_7, q_8, q_9, q_10, q_11, q_12, q_13, q_14, q_16, q_20, q_23, q_24, q_32, q_42, q_43, q_45, q_47, q_48, q_50, q_57, q_59, q_60, q_61, q_62, q_63, q_64, q_66, q_91, q_93, q_97, q_99, q_122, q_144, q_255, q_256, q_300, q_380, q_400, q_620, q_999, q_1000, q_4095, q_4096, q_9999, q_65536, q_99999, q_31, nI_add, pk_mul, nE, nL, nT, nM31, nShl, ib_nI, nI_clamp, bI_n0, bI_n1, bI_nar, uI_r, uI_l, uL_r, uL_i, uL_p, uA_r, uA_l, bV_some, bU_some, nar_n0, nar_n1, and_self, and_true, true_and, and_false, false_and, if_true, if_false, eq_self, Bool.false_eq_true, Bool.true_eq_false, not_true_eq_false, not_false_eq_true, ↓reduceIte, nlT, nlF, ntT, ntF, neT, neF, ieT, ieF, decide_true, decide_false, Bool.not_true, Bool.not_false, Bool.and_true, Bool.true_and, Bool.and_false, Bool.false_and, Bool.or_true, Bool.true_or, Bool.or_false, Bool.false_or, h1.sc, b1, e, nx_or]
      · intro S1 hI
        have h1 := h.pl hI (by decide)
        have key := L2 S1 hI
        show ∃ S1' v, run 226 0 25 [vR 50 0, vI (nI r), vI (nI k), vI (nI (mayA A (R.2.1.2 r))), vI (nI (A 0 2)), vU, vU] [] S1 = _ ∧ _
        rw [s226_25]
        simp (disch := omega) only [s226_27, s226_28, s226_31, s226_32, s226_33, q_0, q_1, q_2, q_3, q_4, q_5, q_6, q_7, q_8, q_9, q_10, q_11, q_12, q_13, q_14, q_16, q_20, q_23, q_24, q_32, q_42, q_43, q_45, q_47, q_48, q_50, q_57, q_59, q_60, q_61, q_62, q_63, q_64, q_66, q_91, q_93, q_97, q_99, q_122, q_144, q_255, q_256, q_300, q_380, q_400, q_620, q_999, q_1000, q_4095, q_4096, q_9999, q_65536, q_99999, q_31, nI_add, pk_mul, nE, nL, nT, nM31, nShl, ib_nI, nI_clamp, bI_n0, bI_n1, bI_nar, uI_r, uI_l, uL_r, uL_i, uL_p, uA_r, uA_l, bV_some, bU_some, nar_n0, nar_n1, and_self, and_true, true_and, and_false, false_and, if_true, if_false, eq_self, Bool.false_eq_true, Bool.true_eq_false, not_true_eq_false, not_false_eq_true, ↓reduceIte, nlT, nlF, ntT, ntF, neT, neF, ieT, ieF, decide_true, decide_false, Bool.not_true, Bool.not_false, Bool.and_true, Bool.true_and, Bool.and_false, Bool.false_and, Bool.or_true, Bool.true_or, Bool.or_false, Bool.false_or, h1.sc]
        exact key
