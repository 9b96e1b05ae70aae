/-! loops; numbers as whole numbers; frames -/
theorem up_ {α : Type} {F : Nat → α} {N : Nat} {R : α} (hs : ∀ i, i < N → F i = F (i + 1)) (he : F N = R) : ∀ i, i ≤ N → F i = R := by
  have key : ∀ m i, i + m = N → F i = R := by
    intro m
    induction m with
    | zero => intro i hi; rw [show i = N by omega]; exact he
    | succ m ih => intro i hi; rw [hs i (by omega)]; exact ih (i + 1) (by omega)
  intro i hi
  exact key (N - i) i (by omega)
/-- a loop with a state; it may end early -/
theorem upS {σ α : Type} {I : Nat → σ → Prop} {F : Nat → σ → α} {Q : α → Prop} {N : Nat} (hs : ∀ i s, i < N → I i s → Q (F i s) ∨ ∃ s', I (i + 1) s' ∧ F i s = F (i + 1) s') (he : ∀ s, I N s → Q (F N s)) : ∀ i s, i ≤ N → I i s → Q (F i s) := by
  have key : ∀ m i s, i + m = N → I i s → Q (F i s) := by
    intro m
    induction m with
    | zero => intro i s hi h; have e : i = N := by omega
              subst e; exact he s h
    | succ m ih =>
      intro i s hi h
      rcases hs i s (by omega) h with h1 | ⟨s', h2, h3⟩
      · exact h1
      · rw [h3]; exact ih (i + 1) s' (by omega) h2
  intro i s hi h
  exact key (N - i) i s (by omega) h
/-- a loop that goes on while a measure falls -/
theorem dnS {σ α : Type} {I : σ → Prop} {F : σ → α} {Q : α → Prop} (m : σ → Nat) (hs : ∀ s, I s → Q (F s) ∨ ∃ s', I s' ∧ m s' < m s ∧ F s = F s') : ∀ s, I s → Q (F s) := by
  have key : ∀ n s, m s < n → I s → Q (F s) := by
    intro n
    induction n with
    | zero => intro s h; omega
    | succ n ih =>
      intro s hn h
      rcases hs s h with h1 | ⟨s', h2, h3, h4⟩
      · exact h1
      · rw [h4]; exact ih s' (by omega) h2
  intro s h
  exact key (m s + 1) s (by omega) h
theorem q_0 : (0 : Int32) = nI 0 := rfl
theorem q_1 : (1 : Int32) = nI 1 := rfl
theorem q_2 : (2 : Int32) = nI 2 := rfl
theorem q_3 : (3 : Int32) = nI 3 := rfl
theorem q_4 : (4 : Int32) = nI 4 := rfl
theorem q_5 : (5 : Int32) = nI 5 := rfl
theorem q_6 : (6 : Int32) = nI 6 := rfl
theorem q_7 : (7 : Int32) = nI 7 := rfl
theorem q_8 : (8 : Int32) = nI 8 := rfl
theorem q_9 : (9 : Int32) = nI 9 := rfl
theorem q_10 : (10 : Int32) = nI 10 := rfl
theorem q_11 : (11 : Int32) = nI 11 := rfl
theorem q_12 : (12 : Int32) = nI 12 := rfl
theorem q_13 : (13 : Int32) = nI 13 := rfl
theorem q_14 : (14 : Int32) = nI 14 := rfl
theorem q_16 : (16 : Int32) = nI 16 := rfl
theorem q_20 : (20 : Int32) = nI 20 := rfl
theorem q_23 : (23 : Int32) = nI 23 := rfl
theorem q_24 : (24 : Int32) = nI 24 := rfl
theorem q_32 : (32 : Int32) = nI 32 := rfl
theorem q_42 : (42 : Int32) = nI 42 := rfl
theorem q_43 : (43 : Int32) = nI 43 := rfl
theorem q_45 : (45 : Int32) = nI 45 := rfl
theorem q_47 : (47 : Int32) = nI 47 := rfl
theorem q_48 : (48 : Int32) = nI 48 := rfl
theorem q_50 : (50 : Int32) = nI 50 := rfl
theorem q_57 : (57 : Int32) = nI 57 := rfl
theorem q_59 : (59 : Int32) = nI 59 := rfl
theorem q_60 : (60 : Int32) = nI 60 := rfl
theorem q_61 : (61 : Int32) = nI 61 := rfl
theorem q_62 : (62 : Int32) = nI 62 := rfl
theorem q_63 : (63 : Int32) = nI 63 := rfl
theorem q_64 : (64 : Int32) = nI 64 := rfl
theorem q_66 : (66 : Int32) = nI 66 := rfl
theorem q_91 : (91 : Int32) = nI 91 := rfl
theorem q_93 : (93 : Int32) = nI 93 := rfl
theorem q_97 : (97 : Int32) = nI 97 := rfl
theorem q_99 : (99 : Int32) = nI 99 := rfl
theorem q_122 : (122 : Int32) = nI 122 := rfl
theorem q_144 : (144 : Int32) = nI 144 := rfl
theorem q_255 : (255 : Int32) = nI 255 := rfl
theorem q_256 : (256 : Int32) = nI 256 := rfl
theorem q_300 : (300 : Int32) = nI 300 := rfl
theorem q_380 : (380 : Int32) = nI 380 := rfl
theorem q_400 : (400 : Int32) = nI 400 := rfl
theorem q_620 : (620 : Int32) = nI 620 := rfl
theorem q_999 : (999 : Int32) = nI 999 := rfl
theorem q_1000 : (1000 : Int32) = nI 1000 := rfl
theorem q_4095 : (4095 : Int32) = nI 4095 := rfl
theorem q_4096 : (4096 : Int32) = nI 4096 := rfl
theorem q_9999 : (9999 : Int32) = nI 9999 := rfl
theorem q_65536 : (65536 : Int32) = nI 65536 := rfl
theorem q_99999 : (99999 : Int32) = nI 99999 := rfl
theorem q_31 : (31 : Int32) = nI 31 := rfl
theorem nE {a b : Nat} (ha : a < 2 ^ 31) (hb : b < 2 ^ 31) : (nI a = nI b) = (a = b) := propext (nI_eq ha hb)
theorem nL {a b : Nat} (ha : a < 2 ^ 31) (hb : b < 2 ^ 31) : (nI a ≤ nI b) = (a ≤ b) := propext (nI_leI ha hb)
theorem nT {a b : Nat} (ha : a < 2 ^ 31) (hb : b < 2 ^ 31) : (nI a < nI b) = (a < b) := propext (nI_ltI ha hb)
theorem nlT {a b : Nat} (h : a ≤ b) : (a ≤ b) = True := eq_true h
theorem nlF {a b : Nat} (h : b < a) : (a ≤ b) = False := eq_false (by omega)
theorem ntT {a b : Nat} (h : a < b) : (a < b) = True := eq_true h
theorem ntF {a b : Nat} (h : b ≤ a) : (a < b) = False := eq_false (by omega)
theorem neT {a b : Nat} (h : a = b) : (a = b) = True := eq_true h
theorem neF {a b : Nat} (h : a ≠ b) : (a = b) = False := eq_false h
theorem ieT {a b : Int} (h : a = b) : (a = b) = True := eq_true h
theorem ieF {a b : Int} (h : a ≠ b) : (a = b) = False := eq_false h
theorem nM31 {i : Nat} (h : i < 32) : nI i &&& nI 31 = nI i := by
  have : ∀ i, i < 32 → nI i &&& nI 31 = nI i := by decide +kernel
  exact this i h
theorem nShl {i : Nat} (h : i < 31) : nI 1 <<< nI i = nI (2 ^ i) := by
  have := nI_shl1 h
  rw [q_31, nM31 (by omega)] at this
  exact this
theorem nShr {m i : Nat} (hm : m < 2 ^ 31) (hi : i < 32) : nI m >>> nI i = nI (m / 2 ^ i) := by
  have hs : ∀ i, i < 32 → ((nI i).toBitVec.smod 32).toNat = i := by decide +kernel
  exact pk_shrN hm (nI i) i (hs i hi)
theorem bI_n0 (b : Bool) : (bI b = nI 0) = (b = false) := bI_0 b
theorem bI_n1 (b : Bool) : (bI b = nI 1) = (b = true) := by
  cases b <;> simp [bI] <;> decide
theorem nI_one : nI 1 = 1 := rfl
theorem nar_n0 : (vp_nar .boolean (nI 0) = nI 0) = True := eq_true rfl
theorem nar_n1 : (vp_nar .boolean (nI 1) = nI 1) = True := eq_true rfl
theorem uI_r (S : Sto) (t i k : Nat) (v : Int32) (a b c : Nat) : (uI S t i k v).1 a b c = if a = t ∧ b = i ∧ c = k then v else S.1 a b c := rfl
theorem uI_l (S : Sto) (t i k : Nat) (v : Int32) : (uI S t i k v).2 = S.2 := rfl
theorem uL_r (S : Sto) (t i k : Nat) (v : Int64) (a b c : Nat) : (uL S t i k v).2.1 a b c = if a = t ∧ b = i ∧ c = k then v else S.2.1 a b c := rfl
theorem uL_i (S : Sto) (t i k : Nat) (v : Int64) : (uL S t i k v).1 = S.1 := rfl
theorem uL_p (S : Sto) (t i k : Nat) (v : Int64) : (uL S t i k v).2.2 = S.2.2 := rfl
theorem uA_r (S : Sto) (t i : Nat) (f : Nat → Int32) (a b c : Nat) : (uA S t i f).1 a b c = if a = t ∧ b = i then f c else S.1 a b c := rfl
theorem uA_l (S : Sto) (t i : Nat) (f : Nat → Int32) : (uA S t i f).2 = S.2 := rfl
/-- nothing changed but in the cells of P -/
def Fr (P : Nat → Nat → Bool) (S S' : Sto) : Prop := ∀ t i, P t i = false → S'.1 t i = S.1 t i ∧ S'.2.1 t i = S.2.1 t i
theorem Fr.rfl' {P : Nat → Nat → Bool} {S : Sto} : Fr P S S := fun _ _ _ => ⟨rfl, rfl⟩
theorem Fr.tr {P : Nat → Nat → Bool} {S S' S'' : Sto} (h : Fr P S S') (h' : Fr P S' S'') : Fr P S S'' := fun t i hp => ⟨((h' t i hp).1).trans (h t i hp).1, ((h' t i hp).2).trans (h t i hp).2⟩
theorem Fr.mn {P Q : Nat → Nat → Bool} {S S' : Sto} (h : Fr P S S') (hq : ∀ t i, Q t i = false → P t i = false) : Fr Q S S' := fun t i hp => h t i (hq t i hp)
theorem Fr.uI {P : Nat → Nat → Bool} {S S' : Sto} (h : Fr P S S') {t i k : Nat} {v : Int32} (hp : P t i = true) : Fr P S (uI S' t i k v) := by
  intro a b hab
  have hne : ¬ (a = t ∧ b = i) := by
    rintro ⟨rfl, rfl⟩
    rw [hp] at hab
    cases hab
  refine ⟨?_, (h a b hab).2⟩
  rw [← (h a b hab).1]
  funext c
  rw [uI_r, if_neg (fun q => hne ⟨q.1, q.2.1⟩)]
theorem Fr.uL {P : Nat → Nat → Bool} {S S' : Sto} (h : Fr P S S') {t i k : Nat} {v : Int64} (hp : P t i = true) : Fr P S (uL S' t i k v) := by
  intro a b hab
  have hne : ¬ (a = t ∧ b = i) := by
    rintro ⟨rfl, rfl⟩
    rw [hp] at hab
    cases hab
  refine ⟨(h a b hab).1, ?_⟩
  rw [← (h a b hab).2]
  funext c
  rw [uL_r, if_neg (fun q => hne ⟨q.1, q.2.1⟩)]
theorem Fr.uA {P : Nat → Nat → Bool} {S S' : Sto} (h : Fr P S S') {t i : Nat} {f : Nat → Int32} (hp : P t i = true) : Fr P S (uA S' t i f) := by
  intro a b hab
  have hne : ¬ (a = t ∧ b = i) := by
    rintro ⟨rfl, rfl⟩
    rw [hp] at hab
    cases hab
  refine ⟨?_, (h a b hab).2⟩
  rw [← (h a b hab).1]
  funext c
  rw [uA_r, if_neg hne]
theorem Fr.i {P : Nat → Nat → Bool} {S S' : Sto} (h : Fr P S S') {t i : Nat} (hp : P t i = false) (c : Nat) : S'.1 t i c = S.1 t i c := by rw [(h t i hp).1]
theorem Fr.l {P : Nat → Nat → Bool} {S S' : Sto} (h : Fr P S S') {t i : Nat} (hp : P t i = false) (c : Nat) : S'.2.1 t i c = S.2.1 t i c := by rw [(h t i hp).2]
/-- the cells of some tags; those of a town of the class -/
def pL (L : List Nat) : Nat → Nat → Bool := fun t _ => L.contains t
def pQ (q : Nat) (L : List Nat) : Nat → Nat → Bool := fun t i => (decide (1 ≤ t) && decide (t ≤ 13) && i == q) || L.contains t
theorem RepC.fr {P : Nat → Nat → Bool} {S S' : Sto} {q : Nat} {A : Tn} (h : RepC S q A) (hf : Fr P S S') (hp : ∀ t, 1 ≤ t → t ≤ 13 → P t q = false) : RepC S' q A := by
  have e : ∀ t, 1 ≤ t → t ≤ 13 → S'.1 t q = S.1 t q := fun t h1 h2 => (hf t q (hp t h1 h2)).1
  unfold RepC at h ⊢
  rw [e 1 (by omega) (by omega), e 2 (by omega) (by omega), e 3 (by omega) (by omega), e 4 (by omega) (by omega), e 5 (by omega) (by omega), e 6 (by omega) (by omega), e 7 (by omega) (by omega), e 8 (by omega) (by omega), e 9 (by omega) (by omega), e 10 (by omega) (by omega), e 11 (by omega) (by omega), e 12 (by omega) (by omega), e 13 (by omega) (by omega)]
  exact h
theorem RepM.fr {P : Nat → Nat → Bool} {S S' : Sto} {A : Tn} (h : RepM S A) (hf : Fr P S S') (hp : ∀ t, 51 ≤ t → t ≤ 66 → P t 0 = false) : RepM S' A := by
  intro f i hf' hi
  rw [(hf (51 + f) 0 (hp _ (by omega) (by omega))).1]
  exact h f i hf' hi
section RC
variable {S : Sto} {q : Nat} {A : Tn}
theorem RepC.pe (h : RepC S q A) : S.1 1 q 0 = nI (A 0 0) := h.1.1
theorem RepC.th (h : RepC S q A) : S.1 1 q 7 = nI (A 0 1) := h.1.2.1
theorem RepC.wk (h : RepC S q A) : S.1 1 q 10 = nI (A 0 2) := h.1.2.2.1
theorem RepC.nr (h : RepC S q A) : S.1 1 q 16 = nI (A 0 3) := h.1.2.2.2.1
theorem RepC.ye (h : RepC S q A) : S.1 1 q 18 = nI (A 0 4) := h.1.2.2.2.2.1
theorem RepC.dr (h : RepC S q A) : S.1 1 q 19 = nI (A 0 5) := h.1.2.2.2.2.2.1
theorem RepC.lvb (h : RepC S q A) : S.1 1 q 1 = nI (livB A) := h.1.2.2.2.2.2.2.1
theorem RepC.dnb (h : RepC S q A) : S.1 1 q 11 = nI (donB A) := h.1.2.2.2.2.2.2.2
theorem RepC.co (h : RepC S q A) {i : Nat} (hi : i < 12) : S.1 2 q i = nI (A 1 i) := (h.2.1 i hi).1
theorem RepC.he (h : RepC S q A) {i : Nat} (hi : i < 12) : S.1 3 q i = nI (A 3 i) - 1 := (h.2.1 i hi).2.1
theorem RepC.fo (h : RepC S q A) {i : Nat} (hi : i < 12) : S.1 4 q i = nI (foeB A i) := (h.2.1 i hi).2.2
theorem RepC.li (h : RepC S q A) {i : Nat} (hi : i < 144) : S.1 5 q i = nI (A 4 i) - 9 := (h.2.2.1 i hi).1
theorem RepC.gi (h : RepC S q A) {i : Nat} (hi : i < 144) : S.1 6 q i = nI (A 6 i) := (h.2.2.1 i hi).2
theorem RepC.us (h : RepC S q A) {i : Nat} (hi : i < 24) : S.1 8 q i = nI (A 9 i) := (h.2.2.2.1 i hi).2.2
theorem RepC.ak (h : RepC S q A) {i : Nat} (hi : i < 12) : S.1 9 q i = nI (A 10 i) := (h.2.2.2.2 i hi).1
theorem RepC.ki (h : RepC S q A) {i : Nat} (hi : i < 12) : S.1 10 q i = nI (A 11 i) := (h.2.2.2.2 i hi).2.1
theorem RepC.wo (h : RepC S q A) {i : Nat} (hi : i < 12) : S.1 11 q i = nI (A 12 i) := (h.2.2.2.2 i hi).2.2.1
theorem RepC.da (h : RepC S q A) {i : Nat} (hi : i < 12) : S.1 12 q i = nI (A 13 i) := (h.2.2.2.2 i hi).2.2.2.1
theorem RepC.ro (h : RepC S q A) {i : Nat} (hi : i < 12) : S.1 13 q i = nI (A 15 i) := (h.2.2.2.2 i hi).2.2.2.2
end RC
section WA
variable {A : Tn}
theorem WF.pe (h : WF A) : A 0 0 ≤ 12 := h.1.1
theorem WF.th (h : WF A) : A 0 1 ≤ 24 := h.1.2.1
theorem WF.wk (h : WF A) : A 0 2 ≤ 12 := h.1.2.2.1
theorem WF.nr (h : WF A) : A 0 3 ≤ 12 := h.1.2.2.2.1
theorem WF.dr (h : WF A) : A 0 5 < 2 ^ 31 := h.1.2.2.2.2.2
theorem WF.co (h : WF A) {p : Nat} (hp : p < 12) : A 1 p ≤ 99999 := (h.2.1 p hp).1
theorem WF.lv (h : WF A) {p : Nat} (hp : p < 12) : A 2 p ≤ 1 := (h.2.1 p hp).2.1
theorem WF.lvp (h : WF A) {p : Nat} (hp : p < 12) (h1 : A 2 p = 1) : p < A 0 0 := (h.2.1 p hp).2.2.1 h1
theorem WF.he (h : WF A) {p : Nat} (hp : p < 12) : A 3 p ≤ 12 := (h.2.1 p hp).2.2.2.2
theorem WF.heP (h : WF A) {p : Nat} (hp : p < A 0 0) : A 3 p ≤ A 0 0 := (h.2.1 p (by have := h.pe; omega)).2.2.2.1 hp
theorem WF.li (h : WF A) {i : Nat} (hi : i < 144) : A 4 i ≤ 18 := (h.2.2.1 i hi).1
theorem WF.qu (h : WF A) {i : Nat} (hi : i < 144) : A 5 i ≤ 1 := (h.2.2.1 i hi).2
theorem WF.qs (h : WF A) {a b : Nat} (ha : a < 12) (hb : b < 12) : A 5 (12 * a + b) = A 5 (12 * b + a) := (h.2.2.2.1 a b ha hb).1
theorem WF.qd (h : WF A) {a : Nat} (ha : a < 12) : A 5 (12 * a + a) = 0 := (h.2.2.2.1 a a ha ha).2.1
theorem WF.qp (h : WF A) {a b : Nat} (ha : a < 12) (hb : b < 12) (h1 : A 5 (12 * a + b) = 1) : a < A 0 0 ∧ b < A 0 0 := (h.2.2.2.1 a b ha hb).2.2 h1
theorem WF.t (h : WF A) {t : Nat} (ht : t < A 0 1) : A 7 t < A 0 0 ∧ A 8 t < A 0 0 ∧ A 7 t ≠ A 8 t ∧ A 9 t ≤ 999 ∧ A 2 (A 7 t) = 1 ∧ A 2 (A 8 t) = 1 := h.2.2.2.2.1 t ht
theorem WF.w (h : WF A) {w : Nat} (hv : w < A 0 2) : A 10 w < A 0 0 ∧ A 11 w < 2 ^ A 0 1 ∧ A 11 w ≠ 0 ∧ ct (fun i => (A 11 w).testBit i) 24 ≤ 4 ∧ A 12 w ≤ 9999 ∧ A 13 w ≤ 99 := h.2.2.2.2.2.1 w hv
theorem WF.dn (h : WF A) {w : Nat} (hv : w < 12) : A 14 w ≤ 1 := (h.2.2.2.2.2.2.1 w hv).1
theorem WF.dnw (h : WF A) {w : Nat} (hv : w < 12) (h1 : A 14 w = 1) : w < A 0 2 := (h.2.2.2.2.2.2.1 w hv).2 h1
theorem WF.ro (h : WF A) {k : Nat} (hk : k < A 0 3) : A 15 k < A 0 2 := h.2.2.2.2.2.2.2.1 k hk
theorem WF.o (h : WF A) {t : Nat} (ht : t < 24) : A 7 t < 12 ∧ A 8 t < 12 := h.2.2.2.2.2.2.2.2.1 t ht
theorem WF.W (h : WF A) {w : Nat} (hv : w < 12) : A 10 w < 12 ∧ A 11 w < 2 ^ 24 ∧ A 12 w ≤ 9999 ∧ A 13 w ≤ 99 ∧ A 15 w < 12 := h.2.2.2.2.2.2.2.2.2 w hv
end WA
