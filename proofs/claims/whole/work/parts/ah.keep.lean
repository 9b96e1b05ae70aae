/-! no run changes the script -/
def kp (S S' : Sto) : Prop := S'.1 102 = S.1 102 ∧ S'.1 103 = S.1 103
theorem kp_rf {S : Sto} : kp S S := ⟨rfl, rfl⟩
theorem kp_tr {S S' S'' : Sto} (h : kp S S') (h' : kp S' S'') : kp S S'' := ⟨h'.1.trans h.1, h'.2.trans h.2⟩
def stN : Nx → Sto
  | .inl c => c.2.2.2
  | .inr (.inl q) => q.2.2.2.2.2
  | .inr (.inr r) => r.2
def isK (S : Sto) (z : Nx) : Prop := kp S (stN z)
theorem kp_uI {S : Sto} {t i k : Nat} {v : Int32} (h : t ≠ 102 ∧ t ≠ 103) : kp S (uI S t i k v) := by
  refine ⟨?_, ?_⟩ <;> (funext b c; rw [uI_r, if_neg (by omega)])
theorem kp_uA {S : Sto} {t i : Nat} {f : Nat → Int32} (h : t ≠ 102 ∧ t ≠ 103) : kp S (uA S t i f) := by
  refine ⟨?_, ?_⟩ <;> (funext b c; rw [uA_r, if_neg (by omega)])
theorem kp_uL {S : Sto} {t i k : Nat} {v : Int64} : kp S (uL S t i k v) := ⟨rfl, rfl⟩
theorem kp_uP {S : Sto} {j : Nat} : kp S (uP S j) := ⟨rfl, rfl⟩
theorem kn_a : (knd 102).1 = 8 ∧ (knd 103).1 = 9 ∧ (knd 102).2.2 = [] ∧ (knd 103).2.2 = [] := by decide
theorem kn_1 {t n : Nat} (h : (knd t).1 = n) (hn : n < 8) : t ≠ 102 ∧ t ≠ 103 := by
  refine ⟨?_, ?_⟩
  · rintro rfl; rw [kn_a.1] at h; omega
  · rintro rfl; rw [kn_a.2.1] at h; omega
theorem kn_s {t s : Nat} {q : Nat × Nat × Nat} (h : (knd t).2.2[s]? = some q) : t ≠ 102 ∧ t ≠ 103 := by
  refine ⟨?_, ?_⟩
  · rintro rfl; rw [kn_a.2.2.1] at h; simp at h
  · rintro rfl; rw [kn_a.2.2.2] at h; simp at h
theorem cg_k {pc : Nat} {ls st : List av} {S : Sto} {z : Nx} (h : cg pc ls st S = some z) : isK S z := by
  cases h
  exact kp_rf
theorem cg_u {pc : Nat} {ls st : List av} {S S' : Sto} {z : Nx} (hk : kp S S') (h : cg pc ls st S' = some z) : isK S z := by
  cases h
  exact hk
theorem no_k {S : Sto} {z : Nx} (h : (none : Option Nx) = some z) : isK S z := by cases h
theorem ite_k {c : Prop} [Decidable c] {a b : Option Nx} {S : Sto} {z : Nx} (ha : a = some z → isK S z) (hb : b = some z → isK S z) (h : (if c then a else b) = some z) : isK S z := by
  by_cases hc : c
  · rw [if_pos hc] at h; exact ha h
  · rw [if_neg hc] at h; exact hb h
theorem bif_k {c : Bool} {a b : Option Nx} {S : Sto} {z : Nx} (ha : a = some z → isK S z) (hb : b = some z → isK S z) (h : (bif c then a else b) = some z) : isK S z := by
  cases c
  · exact hb h
  · exact ha h
theorem i2_k {st : List av} {F : Int32 → Int32 → List av → Option Nx} {S : Sto} {z : Nx} (hF : ∀ x y r, F x y r = some z → isK S z) (h : i2 st F = some z) : isK S z := by
  obtain ⟨x, y, r, -, h⟩ := i2_inv h
  exact hF x y r h
theorem i1_k {st : List av} {F : Int32 → List av → Option Nx} {S : Sto} {z : Nx} (hF : ∀ x r, F x r = some z → isK S z) (h : i1 st F = some z) : isK S z := by
  obtain ⟨x, r, -, h⟩ := i1_inv h
  exact hF x r h
theorem l2_k {st : List av} {F : Int64 → Int64 → List av → Option Nx} {S : Sto} {z : Nx} (hF : ∀ x y r, F x y r = some z → isK S z) (h : l2 st F = some z) : isK S z := by
  obtain ⟨x, y, r, -, h⟩ := l2_inv h
  exact hF x y r h
theorem l1_k {st : List av} {F : Int64 → List av → Option Nx} {S : Sto} {z : Nx} (hF : ∀ x r, F x r = some z → isK S z) (h : l1 st F = some z) : isK S z := by
  obtain ⟨x, r, -, h⟩ := l1_inv h
  exact hF x r h
theorem r1_k {st : List av} {F : Nat → Nat → List av → Option Nx} {S : Sto} {z : Nx} (hF : ∀ t i r, F t i r = some z → isK S z) (h : r1 st F = some z) : isK S z := by
  obtain ⟨t, i, r, -, h⟩ := r1_inv h
  exact hF t i r h
theorem ri_k {st : List av} {F : Nat → Nat → Int32 → List av → Option Nx} {S : Sto} {z : Nx} (hF : ∀ t i x r, F t i x r = some z → isK S z) (h : ri st F = some z) : isK S z := by
  obtain ⟨t, i, x, r, -, h⟩ := ri_inv h
  exact hF t i x r h
theorem gI_k {ls : List av} {i : Nat} {F : Int32 → Option Nx} {S : Sto} {z : Nx} (hF : ∀ x, F x = some z → isK S z) (h : gI ls i F = some z) : isK S z := by
  obtain ⟨x, -, h⟩ := gI_inv h
  exact hF x h
theorem gL_k {ls : List av} {i : Nat} {F : Int64 → Option Nx} {S : Sto} {z : Nx} (hF : ∀ x, F x = some z → isK S z) (h : gL ls i F = some z) : isK S z := by
  obtain ⟨x, -, h⟩ := gL_inv h
  exact hF x h
theorem gR_k {ls : List av} {i : Nat} {F : Nat → Nat → Option Nx} {S : Sto} {z : Nx} (hF : ∀ t q, F t q = some z → isK S z) (h : gR ls i F = some z) : isK S z := by
  obtain ⟨t, q, -, -, h⟩ := gR_inv h
  exact hF t q h
theorem swR_k {x : Int32} {F : Int → Option Nx} {d : Int} {S : Sto} {z : Nx} (hF : ∀ o, F o = some z → isK S z) : ∀ {l : List Int} {lo : Int}, swR x lo l F d = some z → isK S z
  | [], _, h => hF d h
  | o :: l, lo, h => ite_k (hF o) (fun h => swR_k hF h) h
theorem swL_k {x : Int32} {F : Int → Option Nx} {d : Int} {S : Sto} {z : Nx} (hF : ∀ o, F o = some z → isK S z) : ∀ {l : List (Int × Int)}, swL x l F d = some z → isK S z
  | [], h => hF d h
  | (a, o) :: l, h => ite_k (hF o) (fun h => swL_k hF h) h
theorem p_iconst {k j pc : Nat} {ls st : List av} {S : Sto} {z : Nx} {a0 : _} (h : nxt k j pc ls st S (.iconst a0) = some z) : isK S z := by
  exact cg_k h
theorem p_bipush {k j pc : Nat} {ls st : List av} {S : Sto} {z : Nx} {a0 : _} (h : nxt k j pc ls st S (.bipush a0) = some z) : isK S z := by
  exact cg_k h
theorem p_sipush {k j pc : Nat} {ls st : List av} {S : Sto} {z : Nx} {a0 : _} (h : nxt k j pc ls st S (.sipush a0) = some z) : isK S z := by
  exact cg_k h
theorem p_lconst {k j pc : Nat} {ls st : List av} {S : Sto} {z : Nx} {a0 : _} (h : nxt k j pc ls st S (.lconst a0) = some z) : isK S z := by
  exact cg_k h
theorem p_ldc {k j pc : Nat} {ls st : List av} {S : Sto} {z : Nx} {a0 : _} (h : nxt k j pc ls st S (.ldc a0) = some z) : isK S z := by
  simp only [nxt] at h
  split at h
  · exact cg_k h
  · split at h
    · exact cg_k h
    · cases h
theorem p_ldc_w {k j pc : Nat} {ls st : List av} {S : Sto} {z : Nx} {a0 : _} (h : nxt k j pc ls st S (.ldc_w a0) = some z) : isK S z := by
  simp only [nxt] at h
  split at h
  · exact cg_k h
  · split at h
    · exact cg_k h
    · cases h
theorem p_ldc2_w {k j pc : Nat} {ls st : List av} {S : Sto} {z : Nx} {a0 : _} (h : nxt k j pc ls st S (.ldc2_w a0) = some z) : isK S z := by
  simp only [nxt] at h
  split at h
  · exact cg_k h
  · cases h
theorem p_iload {k j pc : Nat} {ls st : List av} {S : Sto} {z : Nx} {a0 : _} (h : nxt k j pc ls st S (.iload a0) = some z) : isK S z := by
  exact gI_k (fun _ => cg_k) h
theorem p_iload_n {k j pc : Nat} {ls st : List av} {S : Sto} {z : Nx} {a0 : _} (h : nxt k j pc ls st S (.iload_n a0) = some z) : isK S z := by
  exact gI_k (fun _ => cg_k) h
theorem p_lload {k j pc : Nat} {ls st : List av} {S : Sto} {z : Nx} {a0 : _} (h : nxt k j pc ls st S (.lload a0) = some z) : isK S z := by
  exact gL_k (fun _ => cg_k) h
theorem p_lload_n {k j pc : Nat} {ls st : List av} {S : Sto} {z : Nx} {a0 : _} (h : nxt k j pc ls st S (.lload_n a0) = some z) : isK S z := by
  exact gL_k (fun _ => cg_k) h
theorem p_aload {k j pc : Nat} {ls st : List av} {S : Sto} {z : Nx} {a0 : _} (h : nxt k j pc ls st S (.aload a0) = some z) : isK S z := by
  simp only [nxt, sI, sL, sR] at h
  exact gR_k (fun _ _ => cg_k) h
theorem p_aload_n {k j pc : Nat} {ls st : List av} {S : Sto} {z : Nx} {a0 : _} (h : nxt k j pc ls st S (.aload_n a0) = some z) : isK S z := by
  simp only [nxt, sI, sL, sR] at h
  exact gR_k (fun _ _ => cg_k) h
theorem p_istore {k j pc : Nat} {ls st : List av} {S : Sto} {z : Nx} {a0 : _} (h : nxt k j pc ls st S (.istore a0) = some z) : isK S z := by
  exact i1_k (fun _ _ => cg_k) h
theorem p_istore_n {k j pc : Nat} {ls st : List av} {S : Sto} {z : Nx} {a0 : _} (h : nxt k j pc ls st S (.istore_n a0) = some z) : isK S z := by
  exact i1_k (fun _ _ => cg_k) h
theorem p_lstore {k j pc : Nat} {ls st : List av} {S : Sto} {z : Nx} {a0 : _} (h : nxt k j pc ls st S (.lstore a0) = some z) : isK S z := by
  exact l1_k (fun _ _ => cg_k) h
theorem p_lstore_n {k j pc : Nat} {ls st : List av} {S : Sto} {z : Nx} {a0 : _} (h : nxt k j pc ls st S (.lstore_n a0) = some z) : isK S z := by
  exact l1_k (fun _ _ => cg_k) h
theorem p_astore {k j pc : Nat} {ls st : List av} {S : Sto} {z : Nx} {a0 : _} (h : nxt k j pc ls st S (.astore a0) = some z) : isK S z := by
  simp only [nxt, sI, sL, sR] at h
  exact r1_k (fun _ _ _ => bif_k no_k cg_k) h
theorem p_astore_n {k j pc : Nat} {ls st : List av} {S : Sto} {z : Nx} {a0 : _} (h : nxt k j pc ls st S (.astore_n a0) = some z) : isK S z := by
  simp only [nxt, sI, sL, sR] at h
  exact r1_k (fun _ _ _ => bif_k no_k cg_k) h
theorem p_iinc {k j pc : Nat} {ls st : List av} {S : Sto} {z : Nx} {a0 : _} {a1 : _} (h : nxt k j pc ls st S (.iinc a0 a1) = some z) : isK S z := by
  exact gI_k (fun _ => cg_k) h
theorem p_iadd {k j pc : Nat} {ls st : List av} {S : Sto} {z : Nx} (h : nxt k j pc ls st S (.iadd) = some z) : isK S z := by
  exact i2_k (fun _ _ _ => cg_k) h
theorem p_isub {k j pc : Nat} {ls st : List av} {S : Sto} {z : Nx} (h : nxt k j pc ls st S (.isub) = some z) : isK S z := by
  exact i2_k (fun _ _ _ => cg_k) h
theorem p_imul {k j pc : Nat} {ls st : List av} {S : Sto} {z : Nx} (h : nxt k j pc ls st S (.imul) = some z) : isK S z := by
  exact i2_k (fun _ _ _ => cg_k) h
theorem p_iand {k j pc : Nat} {ls st : List av} {S : Sto} {z : Nx} (h : nxt k j pc ls st S (.iand) = some z) : isK S z := by
  exact i2_k (fun _ _ _ => cg_k) h
theorem p_ior {k j pc : Nat} {ls st : List av} {S : Sto} {z : Nx} (h : nxt k j pc ls st S (.ior) = some z) : isK S z := by
  exact i2_k (fun _ _ _ => cg_k) h
theorem p_ixor {k j pc : Nat} {ls st : List av} {S : Sto} {z : Nx} (h : nxt k j pc ls st S (.ixor) = some z) : isK S z := by
  exact i2_k (fun _ _ _ => cg_k) h
theorem p_ishl {k j pc : Nat} {ls st : List av} {S : Sto} {z : Nx} (h : nxt k j pc ls st S (.ishl) = some z) : isK S z := by
  exact i2_k (fun _ _ _ => cg_k) h
theorem p_ishr {k j pc : Nat} {ls st : List av} {S : Sto} {z : Nx} (h : nxt k j pc ls st S (.ishr) = some z) : isK S z := by
  exact i2_k (fun _ _ _ => cg_k) h
theorem p_iushr {k j pc : Nat} {ls st : List av} {S : Sto} {z : Nx} (h : nxt k j pc ls st S (.iushr) = some z) : isK S z := by
  exact i2_k (fun _ _ _ => cg_k) h
theorem p_idiv {k j pc : Nat} {ls st : List av} {S : Sto} {z : Nx} (h : nxt k j pc ls st S (.idiv) = some z) : isK S z := by
  exact i2_k (fun _ _ _ => ite_k no_k cg_k) h
theorem p_irem {k j pc : Nat} {ls st : List av} {S : Sto} {z : Nx} (h : nxt k j pc ls st S (.irem) = some z) : isK S z := by
  exact i2_k (fun _ _ _ => ite_k no_k cg_k) h
theorem p_ineg {k j pc : Nat} {ls st : List av} {S : Sto} {z : Nx} (h : nxt k j pc ls st S (.ineg) = some z) : isK S z := by
  exact i1_k (fun _ _ => cg_k) h
theorem p_ladd {k j pc : Nat} {ls st : List av} {S : Sto} {z : Nx} (h : nxt k j pc ls st S (.ladd) = some z) : isK S z := by
  exact l2_k (fun _ _ _ => cg_k) h
theorem p_lsub {k j pc : Nat} {ls st : List av} {S : Sto} {z : Nx} (h : nxt k j pc ls st S (.lsub) = some z) : isK S z := by
  exact l2_k (fun _ _ _ => cg_k) h
theorem p_lmul {k j pc : Nat} {ls st : List av} {S : Sto} {z : Nx} (h : nxt k j pc ls st S (.lmul) = some z) : isK S z := by
  exact l2_k (fun _ _ _ => cg_k) h
theorem p_land {k j pc : Nat} {ls st : List av} {S : Sto} {z : Nx} (h : nxt k j pc ls st S (.land) = some z) : isK S z := by
  exact l2_k (fun _ _ _ => cg_k) h
theorem p_lor {k j pc : Nat} {ls st : List av} {S : Sto} {z : Nx} (h : nxt k j pc ls st S (.lor) = some z) : isK S z := by
  exact l2_k (fun _ _ _ => cg_k) h
theorem p_ldiv {k j pc : Nat} {ls st : List av} {S : Sto} {z : Nx} (h : nxt k j pc ls st S (.ldiv) = some z) : isK S z := by
  exact l2_k (fun _ _ _ => ite_k no_k cg_k) h
theorem p_lrem {k j pc : Nat} {ls st : List av} {S : Sto} {z : Nx} (h : nxt k j pc ls st S (.lrem) = some z) : isK S z := by
  exact l2_k (fun _ _ _ => ite_k no_k cg_k) h
theorem p_lneg {k j pc : Nat} {ls st : List av} {S : Sto} {z : Nx} (h : nxt k j pc ls st S (.lneg) = some z) : isK S z := by
  exact l1_k (fun _ _ => cg_k) h
theorem p_lcmp {k j pc : Nat} {ls st : List av} {S : Sto} {z : Nx} (h : nxt k j pc ls st S (.lcmp) = some z) : isK S z := by
  exact l2_k (fun _ _ _ => cg_k) h
theorem p_i2l {k j pc : Nat} {ls st : List av} {S : Sto} {z : Nx} (h : nxt k j pc ls st S (.i2l) = some z) : isK S z := by
  exact i1_k (fun _ _ => cg_k) h
theorem p_l2i {k j pc : Nat} {ls st : List av} {S : Sto} {z : Nx} (h : nxt k j pc ls st S (.l2i) = some z) : isK S z := by
  exact l1_k (fun _ _ => cg_k) h
theorem p_i2b {k j pc : Nat} {ls st : List av} {S : Sto} {z : Nx} (h : nxt k j pc ls st S (.i2b) = some z) : isK S z := by
  exact i1_k (fun _ _ => cg_k) h
theorem p_i2c {k j pc : Nat} {ls st : List av} {S : Sto} {z : Nx} (h : nxt k j pc ls st S (.i2c) = some z) : isK S z := by
  exact i1_k (fun _ _ => cg_k) h
theorem p_dup {k j pc : Nat} {ls st : List av} {S : Sto} {z : Nx} (h : nxt k j pc ls st S (.dup) = some z) : isK S z := by
  simp only [nxt] at h
  split at h
  · exact bif_k cg_k no_k h
  · cases h
theorem p_pop {k j pc : Nat} {ls st : List av} {S : Sto} {z : Nx} (h : nxt k j pc ls st S (.pop) = some z) : isK S z := by
  simp only [nxt] at h
  split at h
  · exact bif_k cg_k no_k h
  · cases h
theorem p_dup_x1 {k j pc : Nat} {ls st : List av} {S : Sto} {z : Nx} (h : nxt k j pc ls st S (.dup_x1) = some z) : isK S z := by
  simp only [nxt] at h
  split at h
  · exact bif_k cg_k no_k h
  · cases h
theorem p_dup2 {k j pc : Nat} {ls st : List av} {S : Sto} {z : Nx} (h : nxt k j pc ls st S (.dup2) = some z) : isK S z := by
  simp only [nxt] at h
  split at h
  · exact bif_k cg_k no_k h
  · cases h
theorem p_goto {k j pc : Nat} {ls st : List av} {S : Sto} {z : Nx} {a0 : _} (h : nxt k j pc ls st S (.goto a0) = some z) : isK S z := by
  exact cg_k h
theorem p_tableswitch {k j pc : Nat} {ls st : List av} {S : Sto} {z : Nx} {a0 : _} {a1 : _} {a2 : _} {a3 : _} (h : nxt k j pc ls st S (.tableswitch a0 a1 a2 a3) = some z) : isK S z := by
  exact i1_k (fun _ _ => swR_k (fun _ => cg_k)) h
theorem p_lookupswitch {k j pc : Nat} {ls st : List av} {S : Sto} {z : Nx} {a0 : _} {a1 : _} (h : nxt k j pc ls st S (.lookupswitch a0 a1) = some z) : isK S z := by
  exact i1_k (fun _ _ => swL_k (fun _ => cg_k)) h
theorem p_getfield {k j pc : Nat} {ls st : List av} {S : Sto} {z : Nx} {a0 : _} (h : nxt k j pc ls st S (.getfield a0) = some z) : isK S z := by
  simp only [nxt] at h
  refine r1_k (fun t i r h => ?_) h
  split at h
  · refine bif_k (fun h => ?_) no_k h
    split at h
    · exact cg_k h
    · cases h
  · cases h
theorem p_getstatic {k j pc : Nat} {ls st : List av} {S : Sto} {z : Nx} {a0 : _} (h : nxt k j pc ls st S (.getstatic a0) = some z) : isK S z := by
  simp only [nxt] at h
  exact bif_k (bif_k cg_k (bif_k cg_k no_k)) no_k h
theorem p_arraylength {k j pc : Nat} {ls st : List av} {S : Sto} {z : Nx} (h : nxt k j pc ls st S (.arraylength) = some z) : isK S z := by
  simp only [nxt] at h
  refine r1_k (fun t i r h => ?_) h
  split at h
  · exact cg_k h
  · cases h
theorem p_iaload {k j pc : Nat} {ls st : List av} {S : Sto} {z : Nx} (h : nxt k j pc ls st S (.iaload) = some z) : isK S z := by
  simp only [nxt] at h
  refine ri_k (fun t i x r h => ?_) h
  split at h
  · exact ite_k cg_k no_k h
  · exact ite_k cg_k no_k h
  · cases h
theorem p_laload {k j pc : Nat} {ls st : List av} {S : Sto} {z : Nx} (h : nxt k j pc ls st S (.laload) = some z) : isK S z := by
  simp only [nxt] at h
  refine ri_k (fun t i x r h => ?_) h
  split at h
  · exact ite_k cg_k no_k h
  · cases h
theorem p_baload {k j pc : Nat} {ls st : List av} {S : Sto} {z : Nx} (h : nxt k j pc ls st S (.baload) = some z) : isK S z := by
  simp only [nxt] at h
  refine ri_k (fun t i x r h => ?_) h
  split at h
  · exact ite_k cg_k no_k h
  · exact ite_k cg_k no_k h
  · exact ite_k cg_k no_k h
  · cases h
theorem p_aaload {k j pc : Nat} {ls st : List av} {S : Sto} {z : Nx} (h : nxt k j pc ls st S (.aaload) = some z) : isK S z := by
  simp only [nxt] at h
  refine ri_k (fun t i x r h => ?_) h
  split at h
  · exact ite_k cg_k no_k h
  · cases h
theorem p_if_eq {k j pc : Nat} {ls st : List av} {S : Sto} {z : Nx} {o : Int} (h : nxt k j pc ls st S (.ifCond .eq o) = some z) : isK S z := i1_k (fun _ _ => ite_k cg_k cg_k) h
theorem p_icmp_eq {k j pc : Nat} {ls st : List av} {S : Sto} {z : Nx} {o : Int} (h : nxt k j pc ls st S (.if_icmp .eq o) = some z) : isK S z := i2_k (fun _ _ _ => ite_k cg_k cg_k) h
theorem p_if_ne {k j pc : Nat} {ls st : List av} {S : Sto} {z : Nx} {o : Int} (h : nxt k j pc ls st S (.ifCond .ne o) = some z) : isK S z := i1_k (fun _ _ => ite_k cg_k cg_k) h
theorem p_icmp_ne {k j pc : Nat} {ls st : List av} {S : Sto} {z : Nx} {o : Int} (h : nxt k j pc ls st S (.if_icmp .ne o) = some z) : isK S z := i2_k (fun _ _ _ => ite_k cg_k cg_k) h
theorem p_if_lt {k j pc : Nat} {ls st : List av} {S : Sto} {z : Nx} {o : Int} (h : nxt k j pc ls st S (.ifCond .lt o) = some z) : isK S z := i1_k (fun _ _ => ite_k cg_k cg_k) h
theorem p_icmp_lt {k j pc : Nat} {ls st : List av} {S : Sto} {z : Nx} {o : Int} (h : nxt k j pc ls st S (.if_icmp .lt o) = some z) : isK S z := i2_k (fun _ _ _ => ite_k cg_k cg_k) h
theorem p_if_ge {k j pc : Nat} {ls st : List av} {S : Sto} {z : Nx} {o : Int} (h : nxt k j pc ls st S (.ifCond .ge o) = some z) : isK S z := i1_k (fun _ _ => ite_k cg_k cg_k) h
theorem p_icmp_ge {k j pc : Nat} {ls st : List av} {S : Sto} {z : Nx} {o : Int} (h : nxt k j pc ls st S (.if_icmp .ge o) = some z) : isK S z := i2_k (fun _ _ _ => ite_k cg_k cg_k) h
theorem p_if_gt {k j pc : Nat} {ls st : List av} {S : Sto} {z : Nx} {o : Int} (h : nxt k j pc ls st S (.ifCond .gt o) = some z) : isK S z := i1_k (fun _ _ => ite_k cg_k cg_k) h
theorem p_icmp_gt {k j pc : Nat} {ls st : List av} {S : Sto} {z : Nx} {o : Int} (h : nxt k j pc ls st S (.if_icmp .gt o) = some z) : isK S z := i2_k (fun _ _ _ => ite_k cg_k cg_k) h
theorem p_if_le {k j pc : Nat} {ls st : List av} {S : Sto} {z : Nx} {o : Int} (h : nxt k j pc ls st S (.ifCond .le o) = some z) : isK S z := i1_k (fun _ _ => ite_k cg_k cg_k) h
theorem p_icmp_le {k j pc : Nat} {ls st : List av} {S : Sto} {z : Nx} {o : Int} (h : nxt k j pc ls st S (.if_icmp .le o) = some z) : isK S z := i2_k (fun _ _ _ => ite_k cg_k cg_k) h
theorem p_prm {k' pc : Nat} {ls st : List av} {S : Sto} {z : Nx} (h : prm k' pc ls st S = some z) : isK S z := by
  unfold prm at h
  split at h
  · exact i2_k (fun _ _ _ => bif_k cg_k no_k) h
  · exact l2_k (fun _ _ _ => bif_k cg_k no_k) h
  · exact l2_k (fun _ _ _ => bif_k cg_k no_k) h
  · exact i2_k (fun _ _ _ => bif_k cg_k no_k) h
  · cases h
theorem p_putfield {k j pc : Nat} {ls st : List av} {S : Sto} {z : Nx} {a0 : _} (h : nxt k j pc ls st S (.putfield a0) = some z) : isK S z := by
  simp only [nxt] at h
  split at h
  · split at h
    · refine bif_k (fun h => ?_) no_k h
      split at h
      · rename_i hq
        exact cg_u (kp_uI (kn_s hq)) h
      · rename_i hq
        exact ite_k (fun h => cg_u (kp_uI (kn_s hq)) h) no_k h
      · cases h
    · refine bif_k (fun h => ?_) no_k h
      split at h
      · exact bif_k (fun h => cg_u kp_uP h) no_k h
      · cases h
    · cases h
  · cases h
theorem p_iastore {k j pc : Nat} {ls st : List av} {S : Sto} {z : Nx} (h : nxt k j pc ls st S (.iastore) = some z) : isK S z := by
  simp only [nxt] at h
  split at h
  · refine ri_k (fun t i x r h => ?_) h
    split at h
    · rename_i hq
      exact ite_k (fun h => cg_u (kp_uI (kn_1 hq (by decide))) h) no_k h
    · cases h
  · cases h
theorem p_lastore {k j pc : Nat} {ls st : List av} {S : Sto} {z : Nx} (h : nxt k j pc ls st S (.lastore) = some z) : isK S z := by
  simp only [nxt] at h
  split at h
  · refine ri_k (fun t i x r h => ?_) h
    split at h
    · exact ite_k (fun h => cg_u kp_uL h) no_k h
    · cases h
  · cases h
theorem p_bastore {k j pc : Nat} {ls st : List av} {S : Sto} {z : Nx} (h : nxt k j pc ls st S (.bastore) = some z) : isK S z := by
  simp only [nxt] at h
  split at h
  · refine ri_k (fun t i x r h => ?_) h
    split at h
    · rename_i hq
      exact ite_k (fun h => cg_u (kp_uI (kn_1 hq (by decide))) h) no_k h
    · rename_i hq
      exact ite_k (fun h => cg_u (kp_uI (kn_1 hq (by decide))) h) no_k h
    · cases h
  · cases h
theorem p_acp {pc : Nat} {ls st : List av} {S : Sto} {z : Nx} (h : acp pc ls st S = some z) : isK S z := by
  unfold acp at h
  split at h
  · split at h
    · rename_i hq0 hq1
      exact ite_k (fun h => cg_u (kp_uA (kn_1 (n := 1) (congrArg (fun q => q.1) hq1) (by decide))) h) no_k h
    · cases h
  · cases h
theorem p_ireturn {k j pc : Nat} {ls st : List av} {S : Sto} {z : Nx} (h : nxt k j pc ls st S .ireturn = some z) : isK S z := by
  simp only [nxt] at h
  split at h
  · unfold rt at h
    split at h
    · cases h; exact kp_rf
    · obtain ⟨-, h⟩ := ite_inv h; cases h; exact kp_rf
    · obtain ⟨-, h⟩ := ite_inv h; cases h; exact kp_rf
    · obtain ⟨-, h⟩ := ite_inv h; cases h; exact kp_rf
    · cases h
  · cases h
theorem p_lreturn {k j pc : Nat} {ls st : List av} {S : Sto} {z : Nx} (h : nxt k j pc ls st S .lreturn = some z) : isK S z := by
  simp only [nxt] at h
  split at h
  · split at h
    · cases h; exact kp_rf
    · cases h
  · cases h
theorem p_areturn {k j pc : Nat} {ls st : List av} {S : Sto} {z : Nx} (h : nxt k j pc ls st S .areturn = some z) : isK S z := by
  simp only [nxt] at h
  split at h
  · split at h
    · obtain ⟨-, h⟩ := bif_inv h; cases h; exact kp_rf
    · cases h
  · cases h
theorem p_return_ {k j pc : Nat} {ls st : List av} {S : Sto} {z : Nx} (h : nxt k j pc ls st S .return_ = some z) : isK S z := by
  simp only [nxt] at h
  split at h
  · split at h
    · cases h; exact kp_rf
    · cases h
  · cases h
theorem p_cl {k j pc : Nat} {ls st : List av} {S : Sto} {z : Nx} {kd idx : Nat} (h : cl k j pc ls st S kd idx = some z) : isK S z := by
  obtain ⟨kd', k', po, j', as, r, -, -, -, -, -, -, rfl⟩ := cl_inv h
  exact kp_rf
set_option maxHeartbeats 16000000 in
theorem nxt_k {k j pc : Nat} {ls st : List av} {S : Sto} {z : Nx} {ins : Instr} (h : nxt k j pc ls st S ins = some z) : isK S z := by
  cases ins with
  | iconst a0 => exact p_iconst h
  | bipush a0 => exact p_bipush h
  | sipush a0 => exact p_sipush h
  | lconst a0 => exact p_lconst h
  | ldc a0 => exact p_ldc h
  | ldc_w a0 => exact p_ldc_w h
  | ldc2_w a0 => exact p_ldc2_w h
  | iload a0 => exact p_iload h
  | iload_n a0 => exact p_iload_n h
  | lload a0 => exact p_lload h
  | lload_n a0 => exact p_lload_n h
  | aload a0 => exact p_aload h
  | aload_n a0 => exact p_aload_n h
  | istore a0 => exact p_istore h
  | istore_n a0 => exact p_istore_n h
  | lstore a0 => exact p_lstore h
  | lstore_n a0 => exact p_lstore_n h
  | astore a0 => exact p_astore h
  | astore_n a0 => exact p_astore_n h
  | iinc a0 a1 => exact p_iinc h
  | iadd => exact p_iadd h
  | isub => exact p_isub h
  | imul => exact p_imul h
  | iand => exact p_iand h
  | ior => exact p_ior h
  | ixor => exact p_ixor h
  | ishl => exact p_ishl h
  | ishr => exact p_ishr h
  | iushr => exact p_iushr h
  | idiv => exact p_idiv h
  | irem => exact p_irem h
  | ineg => exact p_ineg h
  | ladd => exact p_ladd h
  | lsub => exact p_lsub h
  | lmul => exact p_lmul h
  | land => exact p_land h
  | lor => exact p_lor h
  | ldiv => exact p_ldiv h
  | lrem => exact p_lrem h
  | lneg => exact p_lneg h
  | lcmp => exact p_lcmp h
  | i2l => exact p_i2l h
  | l2i => exact p_l2i h
  | i2b => exact p_i2b h
  | i2c => exact p_i2c h
  | dup => exact p_dup h
  | pop => exact p_pop h
  | dup_x1 => exact p_dup_x1 h
  | dup2 => exact p_dup2 h
  | goto a0 => exact p_goto h
  | tableswitch a0 a1 a2 a3 => exact p_tableswitch h
  | lookupswitch a0 a1 => exact p_lookupswitch h
  | getfield a0 => exact p_getfield h
  | putfield a0 => exact p_putfield h
  | getstatic a0 => exact p_getstatic h
  | arraylength => exact p_arraylength h
  | iaload => exact p_iaload h
  | laload => exact p_laload h
  | baload => exact p_baload h
  | aaload => exact p_aaload h
  | iastore => exact p_iastore h
  | lastore => exact p_lastore h
  | bastore => exact p_bastore h
  | ireturn => exact p_ireturn h
  | lreturn => exact p_lreturn h
  | areturn => exact p_areturn h
  | return_ => exact p_return_ h
  | ifCond cc o =>
    cases cc with
    | eq => exact p_if_eq h
    | ne => exact p_if_ne h
    | lt => exact p_if_lt h
    | ge => exact p_if_ge h
    | gt => exact p_if_gt h
    | le => exact p_if_le h
  | if_icmp cc o =>
    cases cc with
    | eq => exact p_icmp_eq h
    | ne => exact p_icmp_ne h
    | lt => exact p_icmp_lt h
    | ge => exact p_icmp_ge h
    | gt => exact p_icmp_gt h
    | le => exact p_icmp_le h
  | invokevirtual idx => exact p_cl (kd := 0) h
  | invokestatic idx =>
    simp only [nxt] at h
    refine bif_k p_acp (fun h => ?_) h
    cases hp : prO k idx with
    | some k' =>
      rw [hp] at h
      exact p_prm h
    | none =>
      rw [hp] at h
      exact p_cl h
  | _ => exact absurd h (by intro h; cases h)
theorem exec_k : ∀ (n k j : Nat) (c : Cf) (r : Rt), exec n k j c = some r → kp c.2.2.2 r.2
  | 0, _, _, _, _, h => by cases h
  | n + 1, k, j, (pc, ls, st, S), r, h => by
    have h1 : goN (fun k' j' as S' => exec n k' j' (0, lsO k' as, [], S')) (fun c => exec n k j c) (nx k j pc ls st S) = some r := h
    unfold nx at h1
    cases ha : asg (codeL k) pc with
    | none => rw [ha] at h1; cases h1
    | some q =>
      obtain ⟨ins, nn⟩ := q
      rw [ha] at h1
      simp only at h1
      cases hz : nxt k j pc ls st S ins with
      | none => rw [hz] at h1; cases h1
      | some z =>
        rw [hz] at h1
        have hk : kp S (stN z) := nxt_k hz
        match z, hk, h1 with
        | .inl c, hk, h1 => exact kp_tr hk (exec_k n k j c r h1)
        | .inr (.inr q), hk, h1 => cases h1; exact hk
        | .inr (.inl ((k', j', as), b, (pc', ls', st', S'))), hk, h1 =>
          simp only [goN] at h1
          cases hc : exec n k' j' (0, lsO k' as, [], S') with
          | none => rw [hc] at h1; cases h1
          | some q =>
            obtain ⟨v, S2⟩ := q
            rw [hc] at h1
            have hk2 : kp S' S2 := exec_k n k' j' _ _ hc
            cases v <;> cases b <;> first
              | exact kp_tr (kp_tr hk hk2) (exec_k n k j _ r h1)
              | cases h1
theorem call_k {k j : Nat} {as : List av} {S : Sto} {r : Rt} (h : call k j as S = some r) : kp S r.2 := by
  obtain ⟨n, hn⟩ := run_iff.mp h
  exact exec_k n k j _ r hn
