/-! one write, and the picture of a town -/
theorem RepC.ext {S : Sto} {q : Nat} {A B : Tn} (h : RepC S q A) (e : A = B) : RepC S q B := e ▸ h
theorem RepM.ext {S : Sto} {A B : Tn} (h : RepM S A) (e : A = B) : RepM S B := e ▸ h
theorem bN_congr {f g : Nat → Bool} : ∀ {n : Nat}, (∀ i, i < n → f i = g i) → bN f n = bN g n
  | 0, _ => rfl
  | n + 1, h => by
    unfold bN
    rw [bN_congr (fun i hi => h i (by omega)), h n (by omega)]
theorem bN_or (f : Nat → Bool) {n i : Nat} (hi : i < n) : bN f n ||| 2 ^ i = bN (fun j => f j || j == i) n := by
  apply Nat.eq_of_testBit_eq
  intro j
  rw [Nat.testBit_or, bN_bit, bN_bit, Nat.testBit_two_pow]
  by_cases e : j = i
  · subst e; simp [hi]
  · have e2 : ¬ i = j := fun h => e h.symm
    have e3 : (j == i) = false := by simp [e]
    simp [e3, e2]
theorem nI_andn {a b c : Nat} (h : ∀ i, i < 32 → c.testBit i = (a.testBit i && !b.testBit i)) : nI a &&& (nI b ^^^ (-1)) = nI c := by
  apply Int32.toBitVec_inj.1
  show BitVec.ofNat 32 a &&& (BitVec.ofNat 32 b ^^^ BitVec.ofInt 32 (-1)) = BitVec.ofNat 32 c
  apply BitVec.eq_of_getLsbD_eq
  intro i hi
  have e : (BitVec.ofInt 32 (-1)).getLsbD i = true := by
    have : ∀ i, i < 32 → (BitVec.ofInt 32 (-1)).getLsbD i = true := by decide
    exact this i hi
  rw [BitVec.getLsbD_and, BitVec.getLsbD_xor, e, BitVec.getLsbD_ofNat, BitVec.getLsbD_ofNat, BitVec.getLsbD_ofNat, h i hi]
  simp [hi]
theorem bN_an (f : Nat → Bool) {n i : Nat} (hn : n ≤ 32) : nI (bN f n) &&& (nI (2 ^ i) ^^^ (-1)) = nI (bN (fun j => f j && !(j == i)) n) := by
  apply nI_andn
  intro j hj
  rw [bN_bit, bN_bit, Nat.testBit_two_pow]
  by_cases e : j = i
  · subst e; simp
  · have e2 : ¬ i = j := fun h => e h.symm
    have e3 : (j == i) = false := by simp [e]
    simp [e3, e2]
theorem RepC.s_pe {S : Sto} {q : Nat} {A : Tn} (h : RepC S q A) (v : Nat) {x : Int32} (hx : x = (nI v)) : RepC (uI S 1 q 0 x) q (uT A 0 0 v) := by
  subst hx
  refine ⟨⟨?_, ?_, ?_, ?_, ?_, ?_, ?_, ?_⟩, fun p hp => ⟨?_, ?_, ?_⟩, fun p hp => ⟨?_, ?_⟩, fun p hp => ⟨?_, ?_, ?_⟩, fun p hp => ⟨?_, ?_, ?_, ?_, ?_⟩⟩
  · rw [uI_r, if_pos ⟨rfl, rfl, rfl⟩]; rfl
  · rw [uI_r, if_neg (by omega)]; exact h.th
  · rw [uI_r, if_neg (by omega)]; exact h.wk
  · rw [uI_r, if_neg (by omega)]; exact h.nr
  · rw [uI_r, if_neg (by omega)]; exact h.ye
  · rw [uI_r, if_neg (by omega)]; exact h.dr
  · rw [uI_r, if_neg (by omega)]; exact h.lvb
  · rw [uI_r, if_neg (by omega)]; exact h.dnb
  · exact h.co hp
  · exact h.he hp
  · exact h.fo hp
  · exact h.li hp
  · exact h.gi hp
  · exact (h.2.2.2.1 p hp).1
  · exact (h.2.2.2.1 p hp).2.1
  · exact h.us hp
  · exact h.ak hp
  · exact h.ki hp
  · exact h.wo hp
  · exact h.da hp
  · exact h.ro hp
theorem RepC.s_th {S : Sto} {q : Nat} {A : Tn} (h : RepC S q A) (v : Nat) {x : Int32} (hx : x = (nI v)) : RepC (uI S 1 q 7 x) q (uT A 0 1 v) := by
  subst hx
  refine ⟨⟨?_, ?_, ?_, ?_, ?_, ?_, ?_, ?_⟩, fun p hp => ⟨?_, ?_, ?_⟩, fun p hp => ⟨?_, ?_⟩, fun p hp => ⟨?_, ?_, ?_⟩, fun p hp => ⟨?_, ?_, ?_, ?_, ?_⟩⟩
  · rw [uI_r, if_neg (by omega)]; exact h.pe
  · rw [uI_r, if_pos ⟨rfl, rfl, rfl⟩]; rfl
  · rw [uI_r, if_neg (by omega)]; exact h.wk
  · rw [uI_r, if_neg (by omega)]; exact h.nr
  · rw [uI_r, if_neg (by omega)]; exact h.ye
  · rw [uI_r, if_neg (by omega)]; exact h.dr
  · rw [uI_r, if_neg (by omega)]; exact h.lvb
  · rw [uI_r, if_neg (by omega)]; exact h.dnb
  · exact h.co hp
  · exact h.he hp
  · exact h.fo hp
  · exact h.li hp
  · exact h.gi hp
  · exact (h.2.2.2.1 p hp).1
  · exact (h.2.2.2.1 p hp).2.1
  · exact h.us hp
  · exact h.ak hp
  · exact h.ki hp
  · exact h.wo hp
  · exact h.da hp
  · exact h.ro hp
theorem RepC.s_wk {S : Sto} {q : Nat} {A : Tn} (h : RepC S q A) (v : Nat) {x : Int32} (hx : x = (nI v)) : RepC (uI S 1 q 10 x) q (uT A 0 2 v) := by
  subst hx
  refine ⟨⟨?_, ?_, ?_, ?_, ?_, ?_, ?_, ?_⟩, fun p hp => ⟨?_, ?_, ?_⟩, fun p hp => ⟨?_, ?_⟩, fun p hp => ⟨?_, ?_, ?_⟩, fun p hp => ⟨?_, ?_, ?_, ?_, ?_⟩⟩
  · rw [uI_r, if_neg (by omega)]; exact h.pe
  · rw [uI_r, if_neg (by omega)]; exact h.th
  · rw [uI_r, if_pos ⟨rfl, rfl, rfl⟩]; rfl
  · rw [uI_r, if_neg (by omega)]; exact h.nr
  · rw [uI_r, if_neg (by omega)]; exact h.ye
  · rw [uI_r, if_neg (by omega)]; exact h.dr
  · rw [uI_r, if_neg (by omega)]; exact h.lvb
  · rw [uI_r, if_neg (by omega)]; exact h.dnb
  · exact h.co hp
  · exact h.he hp
  · exact h.fo hp
  · exact h.li hp
  · exact h.gi hp
  · exact (h.2.2.2.1 p hp).1
  · exact (h.2.2.2.1 p hp).2.1
  · exact h.us hp
  · exact h.ak hp
  · exact h.ki hp
  · exact h.wo hp
  · exact h.da hp
  · exact h.ro hp
theorem RepC.s_nr {S : Sto} {q : Nat} {A : Tn} (h : RepC S q A) (v : Nat) {x : Int32} (hx : x = (nI v)) : RepC (uI S 1 q 16 x) q (uT A 0 3 v) := by
  subst hx
  refine ⟨⟨?_, ?_, ?_, ?_, ?_, ?_, ?_, ?_⟩, fun p hp => ⟨?_, ?_, ?_⟩, fun p hp => ⟨?_, ?_⟩, fun p hp => ⟨?_, ?_, ?_⟩, fun p hp => ⟨?_, ?_, ?_, ?_, ?_⟩⟩
  · rw [uI_r, if_neg (by omega)]; exact h.pe
  · rw [uI_r, if_neg (by omega)]; exact h.th
  · rw [uI_r, if_neg (by omega)]; exact h.wk
  · rw [uI_r, if_pos ⟨rfl, rfl, rfl⟩]; rfl
  · rw [uI_r, if_neg (by omega)]; exact h.ye
  · rw [uI_r, if_neg (by omega)]; exact h.dr
  · rw [uI_r, if_neg (by omega)]; exact h.lvb
  · rw [uI_r, if_neg (by omega)]; exact h.dnb
  · exact h.co hp
  · exact h.he hp
  · exact h.fo hp
  · exact h.li hp
  · exact h.gi hp
  · exact (h.2.2.2.1 p hp).1
  · exact (h.2.2.2.1 p hp).2.1
  · exact h.us hp
  · exact h.ak hp
  · exact h.ki hp
  · exact h.wo hp
  · exact h.da hp
  · exact h.ro hp
theorem RepC.s_ye {S : Sto} {q : Nat} {A : Tn} (h : RepC S q A) (v : Nat) {x : Int32} (hx : x = (nI v)) : RepC (uI S 1 q 18 x) q (uT A 0 4 v) := by
  subst hx
  refine ⟨⟨?_, ?_, ?_, ?_, ?_, ?_, ?_, ?_⟩, fun p hp => ⟨?_, ?_, ?_⟩, fun p hp => ⟨?_, ?_⟩, fun p hp => ⟨?_, ?_, ?_⟩, fun p hp => ⟨?_, ?_, ?_, ?_, ?_⟩⟩
  · rw [uI_r, if_neg (by omega)]; exact h.pe
  · rw [uI_r, if_neg (by omega)]; exact h.th
  · rw [uI_r, if_neg (by omega)]; exact h.wk
  · rw [uI_r, if_neg (by omega)]; exact h.nr
  · rw [uI_r, if_pos ⟨rfl, rfl, rfl⟩]; rfl
  · rw [uI_r, if_neg (by omega)]; exact h.dr
  · rw [uI_r, if_neg (by omega)]; exact h.lvb
  · rw [uI_r, if_neg (by omega)]; exact h.dnb
  · exact h.co hp
  · exact h.he hp
  · exact h.fo hp
  · exact h.li hp
  · exact h.gi hp
  · exact (h.2.2.2.1 p hp).1
  · exact (h.2.2.2.1 p hp).2.1
  · exact h.us hp
  · exact h.ak hp
  · exact h.ki hp
  · exact h.wo hp
  · exact h.da hp
  · exact h.ro hp
theorem RepC.s_dr {S : Sto} {q : Nat} {A : Tn} (h : RepC S q A) (v : Nat) {x : Int32} (hx : x = (nI v)) : RepC (uI S 1 q 19 x) q (uT A 0 5 v) := by
  subst hx
  refine ⟨⟨?_, ?_, ?_, ?_, ?_, ?_, ?_, ?_⟩, fun p hp => ⟨?_, ?_, ?_⟩, fun p hp => ⟨?_, ?_⟩, fun p hp => ⟨?_, ?_, ?_⟩, fun p hp => ⟨?_, ?_, ?_, ?_, ?_⟩⟩
  · rw [uI_r, if_neg (by omega)]; exact h.pe
  · rw [uI_r, if_neg (by omega)]; exact h.th
  · rw [uI_r, if_neg (by omega)]; exact h.wk
  · rw [uI_r, if_neg (by omega)]; exact h.nr
  · rw [uI_r, if_neg (by omega)]; exact h.ye
  · rw [uI_r, if_pos ⟨rfl, rfl, rfl⟩]; rfl
  · rw [uI_r, if_neg (by omega)]; exact h.lvb
  · rw [uI_r, if_neg (by omega)]; exact h.dnb
  · exact h.co hp
  · exact h.he hp
  · exact h.fo hp
  · exact h.li hp
  · exact h.gi hp
  · exact (h.2.2.2.1 p hp).1
  · exact (h.2.2.2.1 p hp).2.1
  · exact h.us hp
  · exact h.ak hp
  · exact h.ki hp
  · exact h.wo hp
  · exact h.da hp
  · exact h.ro hp
theorem RepC.s_co {S : Sto} {q : Nat} {A : Tn} (h : RepC S q A) (i v : Nat) {x : Int32} (hx : x = (nI v)) : RepC (uI S 2 q i x) q (uT A 1 i v) := by
  subst hx
  refine ⟨⟨?_, ?_, ?_, ?_, ?_, ?_, ?_, ?_⟩, fun p hp => ⟨?_, ?_, ?_⟩, fun p hp => ⟨?_, ?_⟩, fun p hp => ⟨?_, ?_, ?_⟩, fun p hp => ⟨?_, ?_, ?_, ?_, ?_⟩⟩
  · exact h.pe
  · exact h.th
  · exact h.wk
  · exact h.nr
  · exact h.ye
  · exact h.dr
  · exact h.lvb
  · exact h.dnb
  · rw [uI_r, uT_r]
    by_cases e : p = i
    · rw [if_pos ⟨rfl, rfl, e⟩, if_pos ⟨rfl, e⟩]
    · rw [if_neg (by omega), if_neg (by omega)]
      exact h.co hp
  · exact h.he hp
  · exact h.fo hp
  · exact h.li hp
  · exact h.gi hp
  · exact (h.2.2.2.1 p hp).1
  · exact (h.2.2.2.1 p hp).2.1
  · exact h.us hp
  · exact h.ak hp
  · exact h.ki hp
  · exact h.wo hp
  · exact h.da hp
  · exact h.ro hp
theorem RepC.s_he {S : Sto} {q : Nat} {A : Tn} (h : RepC S q A) (i v : Nat) {x : Int32} (hx : x = (nI v - 1)) : RepC (uI S 3 q i x) q (uT A 3 i v) := by
  subst hx
  refine ⟨⟨?_, ?_, ?_, ?_, ?_, ?_, ?_, ?_⟩, fun p hp => ⟨?_, ?_, ?_⟩, fun p hp => ⟨?_, ?_⟩, fun p hp => ⟨?_, ?_, ?_⟩, fun p hp => ⟨?_, ?_, ?_, ?_, ?_⟩⟩
  · exact h.pe
  · exact h.th
  · exact h.wk
  · exact h.nr
  · exact h.ye
  · exact h.dr
  · exact h.lvb
  · exact h.dnb
  · exact h.co hp
  · rw [uI_r, uT_r]
    by_cases e : p = i
    · rw [if_pos ⟨rfl, rfl, e⟩, if_pos ⟨rfl, e⟩]
    · rw [if_neg (by omega), if_neg (by omega)]
      exact h.he hp
  · exact h.fo hp
  · exact h.li hp
  · exact h.gi hp
  · exact (h.2.2.2.1 p hp).1
  · exact (h.2.2.2.1 p hp).2.1
  · exact h.us hp
  · exact h.ak hp
  · exact h.ki hp
  · exact h.wo hp
  · exact h.da hp
  · exact h.ro hp
theorem RepC.s_li {S : Sto} {q : Nat} {A : Tn} (h : RepC S q A) (i v : Nat) {x : Int32} (hx : x = (nI v - 9)) : RepC (uI S 5 q i x) q (uT A 4 i v) := by
  subst hx
  refine ⟨⟨?_, ?_, ?_, ?_, ?_, ?_, ?_, ?_⟩, fun p hp => ⟨?_, ?_, ?_⟩, fun p hp => ⟨?_, ?_⟩, fun p hp => ⟨?_, ?_, ?_⟩, fun p hp => ⟨?_, ?_, ?_, ?_, ?_⟩⟩
  · exact h.pe
  · exact h.th
  · exact h.wk
  · exact h.nr
  · exact h.ye
  · exact h.dr
  · exact h.lvb
  · exact h.dnb
  · exact h.co hp
  · exact h.he hp
  · exact h.fo hp
  · rw [uI_r, uT_r]
    by_cases e : p = i
    · rw [if_pos ⟨rfl, rfl, e⟩, if_pos ⟨rfl, e⟩]
    · rw [if_neg (by omega), if_neg (by omega)]
      exact h.li hp
  · exact h.gi hp
  · exact (h.2.2.2.1 p hp).1
  · exact (h.2.2.2.1 p hp).2.1
  · exact h.us hp
  · exact h.ak hp
  · exact h.ki hp
  · exact h.wo hp
  · exact h.da hp
  · exact h.ro hp
theorem RepC.s_gi {S : Sto} {q : Nat} {A : Tn} (h : RepC S q A) (i v : Nat) {x : Int32} (hx : x = (nI v)) : RepC (uI S 6 q i x) q (uT A 6 i v) := by
  subst hx
  refine ⟨⟨?_, ?_, ?_, ?_, ?_, ?_, ?_, ?_⟩, fun p hp => ⟨?_, ?_, ?_⟩, fun p hp => ⟨?_, ?_⟩, fun p hp => ⟨?_, ?_, ?_⟩, fun p hp => ⟨?_, ?_, ?_, ?_, ?_⟩⟩
  · exact h.pe
  · exact h.th
  · exact h.wk
  · exact h.nr
  · exact h.ye
  · exact h.dr
  · exact h.lvb
  · exact h.dnb
  · exact h.co hp
  · exact h.he hp
  · exact h.fo hp
  · exact h.li hp
  · rw [uI_r, uT_r]
    by_cases e : p = i
    · rw [if_pos ⟨rfl, rfl, e⟩, if_pos ⟨rfl, e⟩]
    · rw [if_neg (by omega), if_neg (by omega)]
      exact h.gi hp
  · exact (h.2.2.2.1 p hp).1
  · exact (h.2.2.2.1 p hp).2.1
  · exact h.us hp
  · exact h.ak hp
  · exact h.ki hp
  · exact h.wo hp
  · exact h.da hp
  · exact h.ro hp
theorem RepC.s_us {S : Sto} {q : Nat} {A : Tn} (h : RepC S q A) (i v : Nat) {x : Int32} (hx : x = (nI v)) : RepC (uI S 8 q i x) q (uT A 9 i v) := by
  subst hx
  refine ⟨⟨?_, ?_, ?_, ?_, ?_, ?_, ?_, ?_⟩, fun p hp => ⟨?_, ?_, ?_⟩, fun p hp => ⟨?_, ?_⟩, fun p hp => ⟨?_, ?_, ?_⟩, fun p hp => ⟨?_, ?_, ?_, ?_, ?_⟩⟩
  · exact h.pe
  · exact h.th
  · exact h.wk
  · exact h.nr
  · exact h.ye
  · exact h.dr
  · exact h.lvb
  · exact h.dnb
  · exact h.co hp
  · exact h.he hp
  · exact h.fo hp
  · exact h.li hp
  · exact h.gi hp
  · exact (h.2.2.2.1 p hp).1
  · exact (h.2.2.2.1 p hp).2.1
  · rw [uI_r, uT_r]
    by_cases e : p = i
    · rw [if_pos ⟨rfl, rfl, e⟩, if_pos ⟨rfl, e⟩]
    · rw [if_neg (by omega), if_neg (by omega)]
      exact h.us hp
  · exact h.ak hp
  · exact h.ki hp
  · exact h.wo hp
  · exact h.da hp
  · exact h.ro hp
theorem RepC.s_ak {S : Sto} {q : Nat} {A : Tn} (h : RepC S q A) (i v : Nat) {x : Int32} (hx : x = (nI v)) : RepC (uI S 9 q i x) q (uT A 10 i v) := by
  subst hx
  refine ⟨⟨?_, ?_, ?_, ?_, ?_, ?_, ?_, ?_⟩, fun p hp => ⟨?_, ?_, ?_⟩, fun p hp => ⟨?_, ?_⟩, fun p hp => ⟨?_, ?_, ?_⟩, fun p hp => ⟨?_, ?_, ?_, ?_, ?_⟩⟩
  · exact h.pe
  · exact h.th
  · exact h.wk
  · exact h.nr
  · exact h.ye
  · exact h.dr
  · exact h.lvb
  · exact h.dnb
  · exact h.co hp
  · exact h.he hp
  · exact h.fo hp
  · exact h.li hp
  · exact h.gi hp
  · exact (h.2.2.2.1 p hp).1
  · exact (h.2.2.2.1 p hp).2.1
  · exact h.us hp
  · rw [uI_r, uT_r]
    by_cases e : p = i
    · rw [if_pos ⟨rfl, rfl, e⟩, if_pos ⟨rfl, e⟩]
    · rw [if_neg (by omega), if_neg (by omega)]
      exact h.ak hp
  · exact h.ki hp
  · exact h.wo hp
  · exact h.da hp
  · exact h.ro hp
theorem RepC.s_ki {S : Sto} {q : Nat} {A : Tn} (h : RepC S q A) (i v : Nat) {x : Int32} (hx : x = (nI v)) : RepC (uI S 10 q i x) q (uT A 11 i v) := by
  subst hx
  refine ⟨⟨?_, ?_, ?_, ?_, ?_, ?_, ?_, ?_⟩, fun p hp => ⟨?_, ?_, ?_⟩, fun p hp => ⟨?_, ?_⟩, fun p hp => ⟨?_, ?_, ?_⟩, fun p hp => ⟨?_, ?_, ?_, ?_, ?_⟩⟩
  · exact h.pe
  · exact h.th
  · exact h.wk
  · exact h.nr
  · exact h.ye
  · exact h.dr
  · exact h.lvb
  · exact h.dnb
  · exact h.co hp
  · exact h.he hp
  · exact h.fo hp
  · exact h.li hp
  · exact h.gi hp
  · exact (h.2.2.2.1 p hp).1
  · exact (h.2.2.2.1 p hp).2.1
  · exact h.us hp
  · exact h.ak hp
  · rw [uI_r, uT_r]
    by_cases e : p = i
    · rw [if_pos ⟨rfl, rfl, e⟩, if_pos ⟨rfl, e⟩]
    · rw [if_neg (by omega), if_neg (by omega)]
      exact h.ki hp
  · exact h.wo hp
  · exact h.da hp
  · exact h.ro hp
theorem RepC.s_wo {S : Sto} {q : Nat} {A : Tn} (h : RepC S q A) (i v : Nat) {x : Int32} (hx : x = (nI v)) : RepC (uI S 11 q i x) q (uT A 12 i v) := by
  subst hx
  refine ⟨⟨?_, ?_, ?_, ?_, ?_, ?_, ?_, ?_⟩, fun p hp => ⟨?_, ?_, ?_⟩, fun p hp => ⟨?_, ?_⟩, fun p hp => ⟨?_, ?_, ?_⟩, fun p hp => ⟨?_, ?_, ?_, ?_, ?_⟩⟩
  · exact h.pe
  · exact h.th
  · exact h.wk
  · exact h.nr
  · exact h.ye
  · exact h.dr
  · exact h.lvb
  · exact h.dnb
  · exact h.co hp
  · exact h.he hp
  · exact h.fo hp
  · exact h.li hp
  · exact h.gi hp
  · exact (h.2.2.2.1 p hp).1
  · exact (h.2.2.2.1 p hp).2.1
  · exact h.us hp
  · exact h.ak hp
  · exact h.ki hp
  · rw [uI_r, uT_r]
    by_cases e : p = i
    · rw [if_pos ⟨rfl, rfl, e⟩, if_pos ⟨rfl, e⟩]
    · rw [if_neg (by omega), if_neg (by omega)]
      exact h.wo hp
  · exact h.da hp
  · exact h.ro hp
theorem RepC.s_da {S : Sto} {q : Nat} {A : Tn} (h : RepC S q A) (i v : Nat) {x : Int32} (hx : x = (nI v)) : RepC (uI S 12 q i x) q (uT A 13 i v) := by
  subst hx
  refine ⟨⟨?_, ?_, ?_, ?_, ?_, ?_, ?_, ?_⟩, fun p hp => ⟨?_, ?_, ?_⟩, fun p hp => ⟨?_, ?_⟩, fun p hp => ⟨?_, ?_, ?_⟩, fun p hp => ⟨?_, ?_, ?_, ?_, ?_⟩⟩
  · exact h.pe
  · exact h.th
  · exact h.wk
  · exact h.nr
  · exact h.ye
  · exact h.dr
  · exact h.lvb
  · exact h.dnb
  · exact h.co hp
  · exact h.he hp
  · exact h.fo hp
  · exact h.li hp
  · exact h.gi hp
  · exact (h.2.2.2.1 p hp).1
  · exact (h.2.2.2.1 p hp).2.1
  · exact h.us hp
  · exact h.ak hp
  · exact h.ki hp
  · exact h.wo hp
  · rw [uI_r, uT_r]
    by_cases e : p = i
    · rw [if_pos ⟨rfl, rfl, e⟩, if_pos ⟨rfl, e⟩]
    · rw [if_neg (by omega), if_neg (by omega)]
      exact h.da hp
  · exact h.ro hp
theorem RepC.s_ro {S : Sto} {q : Nat} {A : Tn} (h : RepC S q A) (i v : Nat) {x : Int32} (hx : x = (nI v)) : RepC (uI S 13 q i x) q (uT A 15 i v) := by
  subst hx
  refine ⟨⟨?_, ?_, ?_, ?_, ?_, ?_, ?_, ?_⟩, fun p hp => ⟨?_, ?_, ?_⟩, fun p hp => ⟨?_, ?_⟩, fun p hp => ⟨?_, ?_, ?_⟩, fun p hp => ⟨?_, ?_, ?_, ?_, ?_⟩⟩
  · exact h.pe
  · exact h.th
  · exact h.wk
  · exact h.nr
  · exact h.ye
  · exact h.dr
  · exact h.lvb
  · exact h.dnb
  · exact h.co hp
  · exact h.he hp
  · exact h.fo hp
  · exact h.li hp
  · exact h.gi hp
  · exact (h.2.2.2.1 p hp).1
  · exact (h.2.2.2.1 p hp).2.1
  · exact h.us hp
  · exact h.ak hp
  · exact h.ki hp
  · exact h.wo hp
  · exact h.da hp
  · rw [uI_r, uT_r]
    by_cases e : p = i
    · rw [if_pos ⟨rfl, rfl, e⟩, if_pos ⟨rfl, e⟩]
    · rw [if_neg (by omega), if_neg (by omega)]
      exact h.ro hp
theorem RepC.s_o1 {S : Sto} {q : Nat} {A : Tn} (h : RepC S q A) (i v : Nat) {x : Int32} (hx : x = (nI v)) : RepC (uI S 7 q (2 * i) x) q (uT A 7 i v) := by
  subst hx
  refine ⟨⟨?_, ?_, ?_, ?_, ?_, ?_, ?_, ?_⟩, fun p hp => ⟨?_, ?_, ?_⟩, fun p hp => ⟨?_, ?_⟩, fun p hp => ⟨?_, ?_, ?_⟩, fun p hp => ⟨?_, ?_, ?_, ?_, ?_⟩⟩
  · exact h.pe
  · exact h.th
  · exact h.wk
  · exact h.nr
  · exact h.ye
  · exact h.dr
  · exact h.lvb
  · exact h.dnb
  · exact h.co hp
  · exact h.he hp
  · exact h.fo hp
  · exact h.li hp
  · exact h.gi hp
  · rw [uI_r, uT_r]
    by_cases e : p = i
    · rw [if_pos ⟨rfl, rfl, by omega⟩, if_pos ⟨rfl, e⟩]
    · rw [if_neg (by omega), if_neg (by omega)]
      exact (h.2.2.2.1 p hp).1
  · rw [uI_r, if_neg (by omega)]
    exact (h.2.2.2.1 p hp).2.1
  · exact h.us hp
  · exact h.ak hp
  · exact h.ki hp
  · exact h.wo hp
  · exact h.da hp
  · exact h.ro hp
theorem RepC.s_o2 {S : Sto} {q : Nat} {A : Tn} (h : RepC S q A) (i v : Nat) {x : Int32} (hx : x = (nI v)) : RepC (uI S 7 q (2 * i + 1) x) q (uT A 8 i v) := by
  subst hx
  refine ⟨⟨?_, ?_, ?_, ?_, ?_, ?_, ?_, ?_⟩, fun p hp => ⟨?_, ?_, ?_⟩, fun p hp => ⟨?_, ?_⟩, fun p hp => ⟨?_, ?_, ?_⟩, fun p hp => ⟨?_, ?_, ?_, ?_, ?_⟩⟩
  · exact h.pe
  · exact h.th
  · exact h.wk
  · exact h.nr
  · exact h.ye
  · exact h.dr
  · exact h.lvb
  · exact h.dnb
  · exact h.co hp
  · exact h.he hp
  · exact h.fo hp
  · exact h.li hp
  · exact h.gi hp
  · rw [uI_r, if_neg (by omega)]
    exact (h.2.2.2.1 p hp).1
  · rw [uI_r, uT_r]
    by_cases e : p = i
    · rw [if_pos ⟨rfl, rfl, by omega⟩, if_pos ⟨rfl, e⟩]
    · rw [if_neg (by omega), if_neg (by omega)]
      exact (h.2.2.2.1 p hp).2.1
  · exact h.us hp
  · exact h.ak hp
  · exact h.ki hp
  · exact h.wo hp
  · exact h.da hp
  · exact h.ro hp
theorem RepC.s_lv {S : Sto} {q : Nat} {A : Tn} (h : RepC S q A) (i v : Nat) {x : Int32} (hx : x = (nI (livB (uT A 2 i v)))) : RepC (uI S 1 q 1 x) q (uT A 2 i v) := by
  subst hx
  refine ⟨⟨?_, ?_, ?_, ?_, ?_, ?_, ?_, ?_⟩, fun p hp => ⟨?_, ?_, ?_⟩, fun p hp => ⟨?_, ?_⟩, fun p hp => ⟨?_, ?_, ?_⟩, fun p hp => ⟨?_, ?_, ?_, ?_, ?_⟩⟩
  · rw [uI_r, if_neg (by omega)]; exact h.pe
  · rw [uI_r, if_neg (by omega)]; exact h.th
  · rw [uI_r, if_neg (by omega)]; exact h.wk
  · rw [uI_r, if_neg (by omega)]; exact h.nr
  · rw [uI_r, if_neg (by omega)]; exact h.ye
  · rw [uI_r, if_neg (by omega)]; exact h.dr
  · rw [uI_r, if_pos ⟨rfl, rfl, rfl⟩]
  · rw [uI_r, if_neg (by omega)]; exact h.dnb
  · exact h.co hp
  · exact h.he hp
  · exact h.fo hp
  · exact h.li hp
  · exact h.gi hp
  · exact (h.2.2.2.1 p hp).1
  · exact (h.2.2.2.1 p hp).2.1
  · exact h.us hp
  · exact h.ak hp
  · exact h.ki hp
  · exact h.wo hp
  · exact h.da hp
  · exact h.ro hp
theorem RepC.s_dn {S : Sto} {q : Nat} {A : Tn} (h : RepC S q A) (i v : Nat) {x : Int32} (hx : x = (nI (donB (uT A 14 i v)))) : RepC (uI S 1 q 11 x) q (uT A 14 i v) := by
  subst hx
  refine ⟨⟨?_, ?_, ?_, ?_, ?_, ?_, ?_, ?_⟩, fun p hp => ⟨?_, ?_, ?_⟩, fun p hp => ⟨?_, ?_⟩, fun p hp => ⟨?_, ?_, ?_⟩, fun p hp => ⟨?_, ?_, ?_, ?_, ?_⟩⟩
  · rw [uI_r, if_neg (by omega)]; exact h.pe
  · rw [uI_r, if_neg (by omega)]; exact h.th
  · rw [uI_r, if_neg (by omega)]; exact h.wk
  · rw [uI_r, if_neg (by omega)]; exact h.nr
  · rw [uI_r, if_neg (by omega)]; exact h.ye
  · rw [uI_r, if_neg (by omega)]; exact h.dr
  · rw [uI_r, if_neg (by omega)]; exact h.lvb
  · rw [uI_r, if_pos ⟨rfl, rfl, rfl⟩]
  · exact h.co hp
  · exact h.he hp
  · exact h.fo hp
  · exact h.li hp
  · exact h.gi hp
  · exact (h.2.2.2.1 p hp).1
  · exact (h.2.2.2.1 p hp).2.1
  · exact h.us hp
  · exact h.ak hp
  · exact h.ki hp
  · exact h.wo hp
  · exact h.da hp
  · exact h.ro hp
theorem livB_1 (A : Tn) {i : Nat} (hi : i < 12) : nI (livB A) ||| nI (2 ^ i) = nI (livB (uT A 2 i 1)) := by
  unfold livB
  rw [nx_or, bN_or _ hi]
  congr 1
  apply bN_congr
  intro j hj
  rw [uT_r]
  by_cases e : j = i <;> simp [e]
theorem livB_0 (A : Tn) (i : Nat) : nI (livB A) &&& (nI (2 ^ i) ^^^ (-1)) = nI (livB (uT A 2 i 0)) := by
  unfold livB
  rw [bN_an _ (by decide)]
  congr 1
  apply bN_congr
  intro j hj
  rw [uT_r]
  by_cases e : j = i <;> simp [e]
theorem donB_1 (A : Tn) {i : Nat} (hi : i < 12) : nI (donB A) ||| nI (2 ^ i) = nI (donB (uT A 14 i 1)) := by
  unfold donB
  rw [nx_or, bN_or _ hi]
  congr 1
  apply bN_congr
  intro j hj
  rw [uT_r]
  by_cases e : j = i <;> simp [e]
/-- a quarrel set -/
def uQ (A : Tn) (a b v : Nat) : Tn := uT (uT A 5 (12 * a + b) v) 5 (12 * b + a) v
theorem uQ_r (A : Tn) (a b v g j : Nat) : uQ A a b v g j = if g = 5 ∧ j = 12 * b + a then v else if g = 5 ∧ j = 12 * a + b then v else A g j := rfl
theorem foeB_1 (A : Tn) {a b : Nat} (ha : a < 12) (hb : b < 12) (hab : a ≠ b) : nI (foeB A a) ||| nI (2 ^ b) = nI (foeB (uQ A a b 1) a) := by
  unfold foeB
  rw [nx_or, bN_or _ hb]
  congr 1
  apply bN_congr
  intro j hj
  rw [uQ_r, if_neg (by omega)]
  by_cases e : j = b
  · simp [e]
  · rw [if_neg (by omega)]; simp [e]
theorem foeB_0 (A : Tn) {a b : Nat} (ha : a < 12) (hb : b < 12) : nI (foeB A a) &&& (nI (2 ^ b) ^^^ (-1)) = nI (foeB (uQ A a b 0) a) := by
  unfold foeB
  rw [bN_an _ (by decide)]
  congr 1
  apply bN_congr
  intro j hj
  rw [uQ_r]
  by_cases e : j = b
  · subst e
    rw [if_pos (show 5 = 5 ∧ 12 * a + j = 12 * a + j from ⟨rfl, rfl⟩)]
    split <;> simp
  · rw [if_neg (by omega), if_neg (by omega)]; simp [e]
theorem uQ_sw (A : Tn) (a b v : Nat) : uQ A a b v = uQ A b a v := by
  funext g j
  rw [uQ_r, uQ_r]
  split <;> split <;> first | rfl | (exfalso; omega)
theorem foeB_o (A : Tn) {a b c v : Nat} (ha : a < 12) (hb : b < 12) (hc : c ≠ a) (hc2 : c ≠ b) : foeB (uQ A a b v) c = foeB A c := by
  unfold foeB
  apply bN_congr
  intro j hj
  rw [uQ_r, if_neg (by omega), if_neg (by omega)]
theorem RepC.s_qu {S : Sto} {q : Nat} {A : Tn} (h : RepC S q A) {a b : Nat} (v : Nat) (ha : a < 12) (hb : b < 12) (S2 : Sto) (hS : ∀ t k, S2.1 t q k = if t = 4 ∧ (k = a ∨ k = b) then nI (foeB (uQ A a b v) k) else S.1 t q k) : RepC S2 q (uQ A a b v) := by
  refine ⟨⟨?_, ?_, ?_, ?_, ?_, ?_, ?_, ?_⟩, fun p hp => ⟨?_, ?_, ?_⟩, fun p hp => ⟨?_, ?_⟩, fun p hp => ⟨?_, ?_, ?_⟩, fun p hp => ⟨?_, ?_, ?_, ?_, ?_⟩⟩
  · rw [hS, if_neg (by omega)]
    exact h.pe
  · rw [hS, if_neg (by omega)]
    exact h.th
  · rw [hS, if_neg (by omega)]
    exact h.wk
  · rw [hS, if_neg (by omega)]
    exact h.nr
  · rw [hS, if_neg (by omega)]
    exact h.ye
  · rw [hS, if_neg (by omega)]
    exact h.dr
  · rw [hS, if_neg (by omega)]
    exact h.lvb
  · rw [hS, if_neg (by omega)]
    exact h.dnb
  · rw [hS, if_neg (by omega)]
    exact h.co hp
  · rw [hS, if_neg (by omega)]
    exact h.he hp
  · rw [hS]
    by_cases e : p = a ∨ p = b
    · rw [if_pos ⟨rfl, e⟩]
    · rw [if_neg (by omega), foeB_o A ha hb (by omega) (by omega)]
      exact h.fo hp
  · rw [hS, if_neg (by omega)]
    exact h.li hp
  · rw [hS, if_neg (by omega)]
    exact h.gi hp
  · rw [hS, if_neg (by omega)]
    exact (h.2.2.2.1 p hp).1
  · rw [hS, if_neg (by omega)]
    exact (h.2.2.2.1 p hp).2.1
  · rw [hS, if_neg (by omega)]
    exact h.us hp
  · rw [hS, if_neg (by omega)]
    exact h.ak hp
  · rw [hS, if_neg (by omega)]
    exact h.ki hp
  · rw [hS, if_neg (by omega)]
    exact h.wo hp
  · rw [hS, if_neg (by omega)]
    exact h.da hp
  · rw [hS, if_neg (by omega)]
    exact h.ro hp
theorem FC.uI {S S' : Sto} (h : FC S S') {t i k : Nat} {v : Int32} (hp : pcP t i = true) (h0 : t ≠ 0) : FC S (uI S' t i k v) := ⟨Fr.uI h.1 hp, by rw [uI_r, if_neg (by omega)]; exact h.2⟩
theorem FC.uL {S S' : Sto} (h : FC S S') {t i k : Nat} {v : Int64} (hp : pcP t i = true) : FC S (uL S' t i k v) := ⟨Fr.uL h.1 hp, h.2⟩
theorem FC.uA {S S' : Sto} (h : FC S S') {t i : Nat} {f : Nat → Int32} (hp : pcP t i = true) (h0 : t ≠ 0) : FC S (uA S' t i f) := ⟨Fr.uA h.1 hp, by rw [uA_r, if_neg (by omega)]; exact h.2⟩
theorem FM.uI {S S' : Sto} (h : FM S S') {t i k : Nat} {v : Int32} (hp : pmP t i = true) (h0 : t ≠ 50) : FM S (uI S' t i k v) := ⟨Fr.uI h.1 hp, fun c hc => by rw [uI_r, if_neg (by omega)]; exact h.2 c hc⟩
theorem FM.uL {S S' : Sto} (h : FM S S') {t i k : Nat} {v : Int64} (hp : pmP t i = true) : FM S (uL S' t i k v) := ⟨Fr.uL h.1 hp, h.2⟩
/-- a number between 0 and n -/
def lsB (x : Int32) (n : Nat) : Bool := !decide (x < 0) && !decide (nI n ≤ x)
theorem lsB_t {x : Int32} {n : Nat} (h : lsB x n = true) (hn : n < 2 ^ 31) : ∃ j, j < n ∧ x = nI j := by
  unfold lsB at h
  simp only [Bool.and_eq_true, Bool.not_eq_true', decide_eq_false_iff_not] at h
  rcases pk_ix x (n := n) hn with h1 | h1 | h1
  · exact absurd h1 h.1
  · exact absurd h1 h.2
  · exact h1
theorem lsB_n {j n : Nat} (hj : j < 2 ^ 31) (hn : n < 2 ^ 31) : lsB (nI j) n = decide (j < n) := by
  unfold lsB
  rw [Bool.eq_iff_iff]
  simp only [Bool.and_eq_true, Bool.not_eq_true', decide_eq_false_iff_not, decide_eq_true_eq, nL hn hj]
  have := nI_pos hj
  simp only [this, not_false_eq_true, true_and]
  omega
theorem lt_le {x : Int32} {m : Nat} (hm : m < 2 ^ 31 - 1) : (nI m < x) = (nI (m + 1) ≤ x) := by
  apply propext
  rw [Int32.lt_iff_toInt_lt, Int32.le_iff_toInt_le, nI_toInt (by omega), nI_toInt (by omega)]
  omega
theorem x_in (S : Sto) (x : Int32) {m : Nat} (hm : m < 2 ^ 31 - 1) : call 93 0 [vI x, vI (nI m)] S = some (some (vI (bI (lsB x (m + 1)))), S) := by
  rw [x_within]
  unfold lsB
  simp only [lt_le hm]
theorem m_inN (S : Sto) (x : Int32) {m : Nat} (hm : m < 2 ^ 31 - 1) {b : Int64} (hb : (nI m).toInt64 = b) : call 137 0 [vL x.toInt64, vL 0, vL b] S = some (some (vI (bI (lsB x (m + 1)))), S) := by
  rw [m_inI S x 0 (nI m) (a := 0) (by decide) hb]
  unfold lsB
  simp only [lt_le hm]
/-- who lives -/
def alB (A : Tn) (x : Int32) : Bool := lsB x (A 0 0) && A 2 x.toNatClampNeg == 1
section RD
variable {S : Sto} {q : Nat} {A : Tn}
theorem x_isP (h : RepC S q A) (x : Int32) : call 69 0 [vR 1 q, vI x] S = some (some (vI (bI (lsB x (A 0 0)))), S) := by rw [x_isPerson, h.pe]; rfl
theorem x_isT (h : RepC S q A) (x : Int32) : call 77 0 [vR 1 q, vI x] S = some (some (vI (bI (lsB x (A 0 1)))), S) := by rw [x_isThing, h.th]; rfl
theorem x_isW (h : RepC S q A) (x : Int32) : call 78 0 [vR 1 q, vI x] S = some (some (vI (bI (lsB x (A 0 2)))), S) := by rw [x_isWork, h.wk]; rfl
theorem x_isAl (h : RepC S q A) (hw : WF A) (x : Int32) : call 70 0 [vR 1 q, vI x] S = some (some (vI (bI (alB A x))), S) := by
  have hP := hw.pe
  rw [x_isAlive, h.pe, h.lvb]
  unfold alB
  have e0 : (!decide (x < 0) && !decide (nI (A 0 0) ≤ x)) = lsB x (A 0 0) := rfl
  rw [e0]
  cases e : lsB x (A 0 0) with
  | false => rfl
  | true =>
    obtain ⟨j, hj, rfl⟩ := lsB_t e (by omega)
    rw [nI_bit (livB_lt A) (by omega), livB_bit A (by omega), nI_clamp (by omega)]
    cases h5 : (A 2 j == 1) <;> rfl
theorem x_2 (h : RepC S q A) (a b : Int32) : call 68 0 [vR 1 q, vI a, vI b] S = some (some (vI (bI (!decide (a = b) && lsB a (A 0 0) && lsB b (A 0 0)))), S) := by rw [x_areTwo, h.pe]; rfl
theorem m_isP (h : RepM S A) (hw : WF A) (x : Int32) : call 140 0 [vR 50 0, vI x] S = some (some (vI (bI (lsB x (A 0 0)))), S) := m_isPerson h hw x
theorem m_isT (h : RepM S A) (hw : WF A) (x : Int32) : call 162 0 [vR 50 0, vI x] S = some (some (vI (bI (lsB x (A 0 1)))), S) := m_isThing h hw x
theorem m_isW (h : RepM S A) (hw : WF A) (x : Int32) : call 164 0 [vR 50 0, vI x] S = some (some (vI (bI (lsB x (A 0 2)))), S) := m_isWork h hw x
theorem m_isAl (h : RepM S A) (hw : WF A) (x : Int32) : call 142 0 [vR 50 0, vI x] S = some (some (vI (bI (alB A x))), S) := m_isLiving h hw x
theorem m_2 (h : RepM S A) (hw : WF A) (a b : Int32) : call 139 0 [vR 50 0, vI a, vI b] S = some (some (vI (bI (!decide (a = b) && lsB a (A 0 0) && lsB b (A 0 0)))), S) := by
  rw [m_areUnlike h hw]
  have e : ∀ x y z : Bool, (x && y && !z) = (!z && x && y) := by decide
  rw [e]
  rfl
end RD
