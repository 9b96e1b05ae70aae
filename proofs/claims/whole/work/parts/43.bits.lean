/-! Integer.bitCount counts bits -/
theorem land_b {u v M k : Nat} (hv : v < 256) (hk : k < 256) : (256 * u + v) &&& (256 * M + k) = 256 * (u &&& M) + (v &&& k) := by
  apply Nat.eq_of_testBit_eq
  intro i
  have hvk : v &&& k < 2 ^ 8 := Nat.lt_of_le_of_lt Nat.and_le_left hv
  have e1 := Nat.testBit_two_pow_mul_add u (b := v) (i := 8) hv i
  have e2 := Nat.testBit_two_pow_mul_add M (b := k) (i := 8) hk i
  have e3 := Nat.testBit_two_pow_mul_add (u &&& M) (b := v &&& k) (i := 8) hvk i
  rw [Nat.testBit_and]
  show ((2 ^ 8 * u + v).testBit i && (2 ^ 8 * M + k).testBit i) = (2 ^ 8 * (u &&& M) + (v &&& k)).testBit i
  rw [e1, e2, e3]
  by_cases h : i < 8
  · simp [h]
  · simp [h]
def bq1 (b : Nat) : Nat := b - (b / 2 &&& 85)
def bq2 (c : Nat) : Nat := (c &&& 51) + (c / 4 &&& 51)
def bq3 (d : Nat) : Nat := d % 16 + d / 16
theorem bq_ok : ∀ b, b < 256 → (b / 2 &&& 85) ≤ b ∧ bq1 b < 256 ∧ (bq1 b &&& 51) + (bq1 b / 4 &&& 51) < 256 ∧ bq2 (bq1 b) % 16 ≤ 4 ∧ bq2 (bq1 b) / 16 ≤ 4 ∧ bq3 (bq2 (bq1 b)) = ct (fun i => b.testBit i) 8 ∧ bq3 (bq2 (bq1 b)) ≤ 8 := by decide +kernel
theorem sh1_b : ∀ b, b < 256 → ∀ y, y < 2 → (128 * y + b / 2) &&& 85 = (b / 2 &&& 85) := by decide +kernel
theorem sh2_b : ∀ b, b < 256 → ∀ y, y < 4 → (64 * y + b / 4) &&& 51 = (b / 4 &&& 51) := by decide +kernel
theorem m1_b {y b M : Nat} (hb : b < 256) : (256 * y + b) / 2 &&& (256 * M + 85) = 256 * (y / 2 &&& M) + (b / 2 &&& 85) := by
  have e : (256 * y + b) / 2 = 256 * (y / 2) + (128 * (y % 2) + b / 2) := by omega
  rw [e, land_b (by omega) (by decide), sh1_b b hb (y % 2) (by omega)]
theorem m2_b {y b M : Nat} (hb : b < 256) : (256 * y + b) / 4 &&& (256 * M + 51) = 256 * (y / 4 &&& M) + (b / 4 &&& 51) := by
  have e : (256 * y + b) / 4 = 256 * (y / 4) + (64 * (y % 4) + b / 4) := by omega
  rw [e, land_b (by omega) (by decide), sh2_b b hb (y % 4) (by omega)]
/-- four bytes -/
def b4 (a b c d : Nat) : Nat := 256 * (256 * (256 * a + b) + c) + d
theorem m1_4 {a b c d : Nat} (ha : a < 256) (hb : b < 256) (hc : c < 256) (hd : d < 256) : b4 a b c d / 2 &&& 1431655765 = b4 (a / 2 &&& 85) (b / 2 &&& 85) (c / 2 &&& 85) (d / 2 &&& 85) := by
  unfold b4
  have e : (1431655765 : Nat) = 256 * (256 * (256 * (256 * 0 + 85) + 85) + 85) + 85 := by decide
  rw [e, m1_b hd, m1_b hc, m1_b hb]
theorem m2_4 {a b c d : Nat} (ha : a < 256) (hb : b < 256) (hc : c < 256) (hd : d < 256) : b4 a b c d / 4 &&& 858993459 = b4 (a / 4 &&& 51) (b / 4 &&& 51) (c / 4 &&& 51) (d / 4 &&& 51) := by
  unfold b4
  have e : (858993459 : Nat) = 256 * (256 * (256 * 51 + 51) + 51) + 51 := by decide
  rw [e, m2_b hd, m2_b hc, m2_b hb]
theorem n2_4 {a b c d : Nat} (ha : a < 256) (hb : b < 256) (hc : c < 256) (hd : d < 256) : b4 a b c d &&& 858993459 = b4 (a &&& 51) (b &&& 51) (c &&& 51) (d &&& 51) := by
  unfold b4
  have e : (858993459 : Nat) = 256 * (256 * (256 * 51 + 51) + 51) + 51 := by decide
  rw [e, land_b hd (by decide), land_b hc (by decide), land_b hb (by decide)]
theorem n3_4 {a b c d : Nat} (ha : a < 256) (hb : b < 256) (hc : c < 256) (hd : d < 256) : b4 a b c d &&& 252645135 = b4 (a &&& 15) (b &&& 15) (c &&& 15) (d &&& 15) := by
  unfold b4
  have e : (252645135 : Nat) = 256 * (256 * (256 * 15 + 15) + 15) + 15 := by decide
  rw [e, land_b hd (by decide), land_b hc (by decide), land_b hb (by decide)]
theorem nx_and (a b : Nat) : nI a &&& nI b = nI (a &&& b) := by
  apply Int32.toBitVec_inj.1
  show BitVec.ofNat 32 a &&& BitVec.ofNat 32 b = BitVec.ofNat 32 (a &&& b)
  apply BitVec.eq_of_getLsbD_eq
  intro i hi
  simp [hi]
theorem nx_or (a b : Nat) : nI a ||| nI b = nI (a ||| b) := by
  apply Int32.toBitVec_inj.1
  show BitVec.ofNat 32 a ||| BitVec.ofNat 32 b = BitVec.ofNat 32 (a ||| b)
  apply BitVec.eq_of_getLsbD_eq
  intro i hi
  simp [hi]
theorem and15 (n : Nat) : n &&& 15 = n % 16 := Nat.and_two_pow_sub_one_eq_mod n 4
theorem and63 (n : Nat) : n &&& 63 = n % 64 := Nat.and_two_pow_sub_one_eq_mod n 6
theorem nI_ush (n : Nat) (hn : n < 2 ^ 32) (s : Int32) (k : Nat) (hs : ((s.toUInt32 &&& Int32.toUInt32 31).toBitVec % 32).toNat = k) : ((nI n).toUInt32 >>> (s.toUInt32 &&& Int32.toUInt32 31)).toInt32 = nI (n / 2 ^ k) := pk_ushrN hn s k hs
theorem x_bc4 (S : Sto) {a b c d : Nat} (ha : a < 256) (hb : b < 256) (hc : c < 256) (hd : d < 256) : call 270 0 [vI (nI (b4 a b c d))] S = some (some (vI (nI (ct (fun i => a.testBit i) 8 + ct (fun i => b.testBit i) 8 + ct (fun i => c.testBit i) 8 + ct (fun i => d.testBit i) 8))), S) := by
  show run 270 0 0 [vI (nI (b4 a b c d))] [] S = _
  simp only [s270_0, s270_1, s270_2, s270_3, s270_4, s270_7, s270_8, s270_9, s270_10, s270_11, s270_14, s270_15, s270_16, s270_17, s270_18, s270_21, s270_22, s270_23, s270_24, s270_25, s270_26, s270_27, s270_28, s270_29, s270_32, s270_33, s270_34, s270_35, s270_36, s270_38, s270_39, s270_40, s270_41, s270_42, s270_43, s270_45, s270_46, s270_47, s270_48, s270_49, s270_51, s270_52]
  obtain ⟨a1, a2, a3, a4, a5, a6, a7⟩ := bq_ok a ha
  obtain ⟨b1, b2, b3, b4', b5, b6, b7⟩ := bq_ok b hb
  obtain ⟨c1, c2, c3, c4, c5, c6, c7⟩ := bq_ok c hc
  obtain ⟨d1, d2, d3, d4, d5, d6, d7⟩ := bq_ok d hd
  have hlt : ∀ {a b c d : Nat}, a < 256 → b < 256 → c < 256 → d < 256 → b4 a b c d < 2 ^ 32 := by intro a b c d h1 h2 h3 h4; unfold b4; omega
  have k1 : (1431655765 : Int32) = nI 1431655765 := rfl
  have k2 : (858993459 : Int32) = nI 858993459 := rfl
  have k3 : (252645135 : Int32) = nI 252645135 := rfl
  have k4 : (63 : Int32) = nI 63 := rfl
  rw [k1, k2, k3, k4, nI_ush _ (hlt ha hb hc hd) 1 1 (by decide), nx_and, Nat.pow_one, m1_4 ha hb hc hd]
  have e1 : nI (b4 a b c d) - nI (b4 (a / 2 &&& 85) (b / 2 &&& 85) (c / 2 &&& 85) (d / 2 &&& 85)) = nI (b4 (bq1 a) (bq1 b) (bq1 c) (bq1 d)) := by
    rw [pk_sub (by unfold b4; omega)]
    congr 1
    unfold b4 bq1
    omega
  rw [e1, nI_ush _ (hlt a2 b2 c2 d2) 2 2 (by decide), nx_and, nx_and, m2_4 a2 b2 c2 d2, n2_4 a2 b2 c2 d2, nI_add]
  have e2 : b4 (bq1 a &&& 51) (bq1 b &&& 51) (bq1 c &&& 51) (bq1 d &&& 51) + b4 (bq1 a / 4 &&& 51) (bq1 b / 4 &&& 51) (bq1 c / 4 &&& 51) (bq1 d / 4 &&& 51) = b4 (bq2 (bq1 a)) (bq2 (bq1 b)) (bq2 (bq1 c)) (bq2 (bq1 d)) := by
    unfold b4 bq2
    omega
  rw [e2]
  generalize bq2 (bq1 a) = a8 at a4 a5 a6 a7 ⊢
  generalize bq2 (bq1 b) = b8 at b4' b5 b6 b7 ⊢
  generalize bq2 (bq1 c) = c8 at c4 c5 c6 c7 ⊢
  generalize bq2 (bq1 d) = d8 at d4 d5 d6 d7 ⊢
  rw [nI_ush _ (hlt (by omega) (by omega) (by omega) (by omega)) 4 4 (by decide), nI_add]
  have e3 : b4 a8 b8 c8 d8 + b4 a8 b8 c8 d8 / 2 ^ 4 = b4 (a8 + a8 / 16) (b8 + (16 * (a8 % 16) + b8 / 16)) (c8 + (16 * (b8 % 16) + c8 / 16)) (d8 + (16 * (c8 % 16) + d8 / 16)) := by
    unfold b4
    omega
  rw [e3, nx_and, n3_4 (by omega) (by omega) (by omega) (by omega), and15, and15, and15, and15]
  have f : ∀ {x y : Nat}, x % 16 ≤ 4 → x / 16 ≤ 4 → (x + (16 * y + x / 16)) % 16 = bq3 x := by intro x y h1 h2; unfold bq3; omega
  have f0 : (a8 + a8 / 16) % 16 = bq3 a8 := by unfold bq3; omega
  rw [f0, f b4' b5, f c4 c5, f d4 d5]
  generalize bq3 a8 = a9 at a6 a7 ⊢
  generalize bq3 b8 = b9 at b6 b7 ⊢
  generalize bq3 c8 = c9 at c6 c7 ⊢
  generalize bq3 d8 = d9 at d6 d7 ⊢
  rw [nI_ush _ (hlt (by omega) (by omega) (by omega) (by omega)) 8 8 (by decide), nI_add]
  have e4 : b4 a9 b9 c9 d9 + b4 a9 b9 c9 d9 / 2 ^ 8 = b4 a9 (b9 + a9) (c9 + b9) (d9 + c9) := by
    unfold b4
    omega
  rw [e4, nI_ush _ (hlt (by omega) (by omega) (by omega) (by omega)) 16 16 (by decide), nI_add, nx_and, and63]
  have e5 : (b4 a9 (b9 + a9) (c9 + b9) (d9 + c9) + b4 a9 (b9 + a9) (c9 + b9) (d9 + c9) / 2 ^ 16) % 64 = a9 + b9 + c9 + d9 := by
    unfold b4
    have hq : (256 * (256 * (256 * a9 + (b9 + a9)) + (c9 + b9)) + (d9 + c9)) / 2 ^ 16 = 256 * a9 + (b9 + a9) := by
      have e16 : (2 : Nat) ^ 16 = 65536 := by decide
      rw [e16]
      clear e1 e2 e3 e4
      omega
    rw [hq]
    clear e1 e2 e3 e4 hq
    omega
  rw [e5, a6, b6, c6, d6]
theorem ct_add (P : Nat → Bool) (m : Nat) : ∀ n, ct P (m + n) = ct P m + ct (fun i => P (m + i)) n
  | 0 => rfl
  | n + 1 => by
    show ct P (m + n) + (if P (m + n) then 1 else 0) = ct P m + (ct (fun i => P (m + i)) n + (if P (m + n) then 1 else 0))
    rw [ct_add P m n, Nat.add_assoc]
theorem ct_congr {P Q : Nat → Bool} : ∀ {n : Nat}, (∀ i, i < n → P i = Q i) → ct P n = ct Q n
  | 0, _ => rfl
  | n + 1, h => by
    unfold ct
    rw [ct_congr (fun i hi => h i (by omega)), h n (by omega)]
/-- how many bits -/
def pop (m : Nat) : Nat := ct (fun i => m.testBit i) 32
theorem bit_b {u v : Nat} (hv : v < 256) {i : Nat} : (256 * u + v).testBit i = if i < 8 then v.testBit i else u.testBit (i - 8) := Nat.testBit_two_pow_mul_add u (b := v) (i := 8) hv i
theorem pop_b {u v n : Nat} (hv : v < 256) : ct (fun i => (256 * u + v).testBit i) (8 + n) = ct (fun i => v.testBit i) 8 + ct (fun i => u.testBit i) n := by
  rw [ct_add]
  congr 1
  · apply ct_congr
    intro i hi
    show (256 * u + v).testBit i = _
    rw [bit_b hv, if_pos hi]
  · apply ct_congr
    intro i hi
    show (256 * u + v).testBit (8 + i) = _
    rw [bit_b hv, if_neg (by omega)]
    congr 1
    omega
theorem x_bitCount (S : Sto) {m : Nat} (hm : m < 2 ^ 32) : call 270 0 [vI (nI m)] S = some (some (vI (nI (pop m))), S) := by
  have e : m = b4 (m / 16777216) (m / 65536 % 256) (m / 256 % 256) (m % 256) := by unfold b4; omega
  have h := x_bc4 S (a := m / 16777216) (b := m / 65536 % 256) (c := m / 256 % 256) (d := m % 256) (by omega) (by omega) (by omega) (by omega)
  rw [← e] at h
  rw [h]
  have e2 : pop m = ct (fun i => (m / 16777216).testBit i) 8 + ct (fun i => (m / 65536 % 256).testBit i) 8 + ct (fun i => (m / 256 % 256).testBit i) 8 + ct (fun i => (m % 256).testBit i) 8 := by
    unfold pop
    have p0 := pop_b (u := m / 256) (v := m % 256) (n := 24) (by omega)
    have p1 := pop_b (u := m / 65536) (v := m / 256 % 256) (n := 16) (by omega)
    have p2 := pop_b (u := m / 16777216) (v := m / 65536 % 256) (n := 8) (by omega)
    have q0 : 256 * (m / 256) + m % 256 = m := by omega
    have q1 : 256 * (m / 65536) + m / 256 % 256 = m / 256 := by omega
    have q2 : 256 * (m / 16777216) + m / 65536 % 256 = m / 65536 := by omega
    rw [q0] at p0
    rw [q1] at p1
    rw [q2] at p2
    show ct (fun i => m.testBit i) (8 + 24) = _
    rw [p0]
    show _ + ct (fun i => (m / 256).testBit i) (8 + 16) = _
    rw [p1]
    show _ + (_ + ct (fun i => (m / 65536).testBit i) (8 + 8)) = _
    rw [p2]
    omega
  rw [e2]
theorem pop_le (m : Nat) : pop m ≤ 32 := ct_le _ 32
