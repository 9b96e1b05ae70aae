/-! every run of the abstract machine is one of the machine -/
def isC : Nx → Prop := fun z => ∃ cf, z = .inl cf
theorem cg_c {pc : Nat} {ls st : List av} {S : Sto} {z : Nx} (h : cg pc ls st S = some z) : isC z := by
  cases h
  exact ⟨_, rfl⟩
theorem no_c {z : Nx} (h : (none : Option Nx) = some z) : isC z := by cases h
theorem ite_c {c : Prop} [Decidable c] {a b : Option Nx} {z : Nx} (ha : a = some z → isC z) (hb : b = some z → isC z) (h : (if c then a else b) = some z) : isC z := by
  by_cases hc : c
  · rw [if_pos hc] at h; exact ha h
  · rw [if_neg hc] at h; exact hb h
theorem bif_c {c : Bool} {a b : Option Nx} {z : Nx} (ha : a = some z → isC z) (hb : b = some z → isC z) (h : (bif c then a else b) = some z) : isC z := by
  cases c
  · exact hb h
  · exact ha h
theorem i2_c {st : List av} {F : Int32 → Int32 → List av → Option Nx} {z : Nx} (hF : ∀ x y r, F x y r = some z → isC z) (h : i2 st F = some z) : isC z := by
  obtain ⟨x, y, r, -, h⟩ := i2_inv h
  exact hF x y r h
theorem i1_c {st : List av} {F : Int32 → List av → Option Nx} {z : Nx} (hF : ∀ x r, F x r = some z → isC z) (h : i1 st F = some z) : isC z := by
  obtain ⟨x, r, -, h⟩ := i1_inv h
  exact hF x r h
theorem l2_c {st : List av} {F : Int64 → Int64 → List av → Option Nx} {z : Nx} (hF : ∀ x y r, F x y r = some z → isC z) (h : l2 st F = some z) : isC z := by
  obtain ⟨x, y, r, -, h⟩ := l2_inv h
  exact hF x y r h
theorem l1_c {st : List av} {F : Int64 → List av → Option Nx} {z : Nx} (hF : ∀ x r, F x r = some z → isC z) (h : l1 st F = some z) : isC z := by
  obtain ⟨x, r, -, h⟩ := l1_inv h
  exact hF x r h
theorem r1_c {st : List av} {F : Nat → Nat → List av → Option Nx} {z : Nx} (hF : ∀ t i r, F t i r = some z → isC z) (h : r1 st F = some z) : isC z := by
  obtain ⟨t, i, r, -, h⟩ := r1_inv h
  exact hF t i r h
theorem ri_c {st : List av} {F : Nat → Nat → Int32 → List av → Option Nx} {z : Nx} (hF : ∀ t i x r, F t i x r = some z → isC z) (h : ri st F = some z) : isC z := by
  obtain ⟨t, i, x, r, -, h⟩ := ri_inv h
  exact hF t i x r h
theorem gI_c {ls : List av} {i : Nat} {F : Int32 → Option Nx} {z : Nx} (hF : ∀ x, F x = some z → isC z) (h : gI ls i F = some z) : isC z := by
  obtain ⟨x, -, h⟩ := gI_inv h
  exact hF x h
theorem gL_c {ls : List av} {i : Nat} {F : Int64 → Option Nx} {z : Nx} (hF : ∀ x, F x = some z → isC z) (h : gL ls i F = some z) : isC z := by
  obtain ⟨x, -, h⟩ := gL_inv h
  exact hF x h
theorem gR_c {ls : List av} {i : Nat} {F : Nat → Nat → Option Nx} {z : Nx} (hF : ∀ t q, F t q = some z → isC z) (h : gR ls i F = some z) : isC z := by
  obtain ⟨t, q, -, -, h⟩ := gR_inv h
  exact hF t q h
theorem swR_c {x : Int32} {F : Int → Option Nx} {d : Int} {z : Nx} (hF : ∀ o, F o = some z → isC z) : ∀ {l : List Int} {lo : Int}, swR x lo l F d = some z → isC z
  | [], _, h => hF d h
  | o :: l, lo, h => ite_c (hF o) (fun h => swR_c hF h) h
theorem swL_c {x : Int32} {F : Int → Option Nx} {d : Int} {z : Nx} (hF : ∀ o, F o = some z → isC z) : ∀ {l : List (Int × Int)}, swL x l F d = some z → isC z
  | [], h => hF d h
  | (a, o) :: l, h => ite_c (hF o) (fun h => swL_c hF h) h
theorem k_iconst {k j pc : Nat} {ls st : List av} {S : Sto} {z : Nx} {a0 : _} (h : nxt k j pc ls st S (.iconst a0) = some z) : isC z := by
  exact cg_c h
theorem k_bipush {k j pc : Nat} {ls st : List av} {S : Sto} {z : Nx} {a0 : _} (h : nxt k j pc ls st S (.bipush a0) = some z) : isC z := by
  exact cg_c h
theorem k_sipush {k j pc : Nat} {ls st : List av} {S : Sto} {z : Nx} {a0 : _} (h : nxt k j pc ls st S (.sipush a0) = some z) : isC z := by
  exact cg_c h
theorem k_lconst {k j pc : Nat} {ls st : List av} {S : Sto} {z : Nx} {a0 : _} (h : nxt k j pc ls st S (.lconst a0) = some z) : isC z := by
  exact cg_c h
theorem k_ldc {k j pc : Nat} {ls st : List av} {S : Sto} {z : Nx} {a0 : _} (h : nxt k j pc ls st S (.ldc a0) = some z) : isC z := by
  simp only [nxt] at h
  split at h
  · exact cg_c h
  · split at h
    · exact cg_c h
    · cases h
theorem k_ldc_w {k j pc : Nat} {ls st : List av} {S : Sto} {z : Nx} {a0 : _} (h : nxt k j pc ls st S (.ldc_w a0) = some z) : isC z := by
  simp only [nxt] at h
  split at h
  · exact cg_c h
  · split at h
    · exact cg_c h
    · cases h
theorem k_ldc2_w {k j pc : Nat} {ls st : List av} {S : Sto} {z : Nx} {a0 : _} (h : nxt k j pc ls st S (.ldc2_w a0) = some z) : isC z := by
  simp only [nxt] at h
  split at h
  · exact cg_c h
  · cases h
theorem k_iload {k j pc : Nat} {ls st : List av} {S : Sto} {z : Nx} {a0 : _} (h : nxt k j pc ls st S (.iload a0) = some z) : isC z := by
  exact gI_c (fun _ => cg_c) h
theorem k_iload_n {k j pc : Nat} {ls st : List av} {S : Sto} {z : Nx} {a0 : _} (h : nxt k j pc ls st S (.iload_n a0) = some z) : isC z := by
  exact gI_c (fun _ => cg_c) h
theorem k_lload {k j pc : Nat} {ls st : List av} {S : Sto} {z : Nx} {a0 : _} (h : nxt k j pc ls st S (.lload a0) = some z) : isC z := by
  exact gL_c (fun _ => cg_c) h
theorem k_lload_n {k j pc : Nat} {ls st : List av} {S : Sto} {z : Nx} {a0 : _} (h : nxt k j pc ls st S (.lload_n a0) = some z) : isC z := by
  exact gL_c (fun _ => cg_c) h
theorem k_aload {k j pc : Nat} {ls st : List av} {S : Sto} {z : Nx} {a0 : _} (h : nxt k j pc ls st S (.aload a0) = some z) : isC z := by
  simp only [nxt, sI, sL, sR] at h
  exact gR_c (fun _ _ => cg_c) h
theorem k_aload_n {k j pc : Nat} {ls st : List av} {S : Sto} {z : Nx} {a0 : _} (h : nxt k j pc ls st S (.aload_n a0) = some z) : isC z := by
  simp only [nxt, sI, sL, sR] at h
  exact gR_c (fun _ _ => cg_c) h
theorem k_istore {k j pc : Nat} {ls st : List av} {S : Sto} {z : Nx} {a0 : _} (h : nxt k j pc ls st S (.istore a0) = some z) : isC z := by
  exact i1_c (fun _ _ => cg_c) h
theorem k_istore_n {k j pc : Nat} {ls st : List av} {S : Sto} {z : Nx} {a0 : _} (h : nxt k j pc ls st S (.istore_n a0) = some z) : isC z := by
  exact i1_c (fun _ _ => cg_c) h
theorem k_lstore {k j pc : Nat} {ls st : List av} {S : Sto} {z : Nx} {a0 : _} (h : nxt k j pc ls st S (.lstore a0) = some z) : isC z := by
  exact l1_c (fun _ _ => cg_c) h
theorem k_lstore_n {k j pc : Nat} {ls st : List av} {S : Sto} {z : Nx} {a0 : _} (h : nxt k j pc ls st S (.lstore_n a0) = some z) : isC z := by
  exact l1_c (fun _ _ => cg_c) h
theorem k_astore {k j pc : Nat} {ls st : List av} {S : Sto} {z : Nx} {a0 : _} (h : nxt k j pc ls st S (.astore a0) = some z) : isC z := by
  simp only [nxt, sI, sL, sR] at h
  exact r1_c (fun _ _ _ => bif_c no_c cg_c) h
theorem k_astore_n {k j pc : Nat} {ls st : List av} {S : Sto} {z : Nx} {a0 : _} (h : nxt k j pc ls st S (.astore_n a0) = some z) : isC z := by
  simp only [nxt, sI, sL, sR] at h
  exact r1_c (fun _ _ _ => bif_c no_c cg_c) h
theorem k_iinc {k j pc : Nat} {ls st : List av} {S : Sto} {z : Nx} {a0 : _} {a1 : _} (h : nxt k j pc ls st S (.iinc a0 a1) = some z) : isC z := by
  exact gI_c (fun _ => cg_c) h
theorem k_iadd {k j pc : Nat} {ls st : List av} {S : Sto} {z : Nx} (h : nxt k j pc ls st S (.iadd) = some z) : isC z := by
  exact i2_c (fun _ _ _ => cg_c) h
theorem k_isub {k j pc : Nat} {ls st : List av} {S : Sto} {z : Nx} (h : nxt k j pc ls st S (.isub) = some z) : isC z := by
  exact i2_c (fun _ _ _ => cg_c) h
theorem k_imul {k j pc : Nat} {ls st : List av} {S : Sto} {z : Nx} (h : nxt k j pc ls st S (.imul) = some z) : isC z := by
  exact i2_c (fun _ _ _ => cg_c) h
theorem k_iand {k j pc : Nat} {ls st : List av} {S : Sto} {z : Nx} (h : nxt k j pc ls st S (.iand) = some z) : isC z := by
  exact i2_c (fun _ _ _ => cg_c) h
theorem k_ior {k j pc : Nat} {ls st : List av} {S : Sto} {z : Nx} (h : nxt k j pc ls st S (.ior) = some z) : isC z := by
  exact i2_c (fun _ _ _ => cg_c) h
theorem k_ixor {k j pc : Nat} {ls st : List av} {S : Sto} {z : Nx} (h : nxt k j pc ls st S (.ixor) = some z) : isC z := by
  exact i2_c (fun _ _ _ => cg_c) h
theorem k_ishl {k j pc : Nat} {ls st : List av} {S : Sto} {z : Nx} (h : nxt k j pc ls st S (.ishl) = some z) : isC z := by
  exact i2_c (fun _ _ _ => cg_c) h
theorem k_ishr {k j pc : Nat} {ls st : List av} {S : Sto} {z : Nx} (h : nxt k j pc ls st S (.ishr) = some z) : isC z := by
  exact i2_c (fun _ _ _ => cg_c) h
theorem k_iushr {k j pc : Nat} {ls st : List av} {S : Sto} {z : Nx} (h : nxt k j pc ls st S (.iushr) = some z) : isC z := by
  exact i2_c (fun _ _ _ => cg_c) h
theorem k_idiv {k j pc : Nat} {ls st : List av} {S : Sto} {z : Nx} (h : nxt k j pc ls st S (.idiv) = some z) : isC z := by
  exact i2_c (fun _ _ _ => ite_c no_c cg_c) h
theorem k_irem {k j pc : Nat} {ls st : List av} {S : Sto} {z : Nx} (h : nxt k j pc ls st S (.irem) = some z) : isC z := by
  exact i2_c (fun _ _ _ => ite_c no_c cg_c) h
theorem k_ineg {k j pc : Nat} {ls st : List av} {S : Sto} {z : Nx} (h : nxt k j pc ls st S (.ineg) = some z) : isC z := by
  exact i1_c (fun _ _ => cg_c) h
theorem k_ladd {k j pc : Nat} {ls st : List av} {S : Sto} {z : Nx} (h : nxt k j pc ls st S (.ladd) = some z) : isC z := by
  exact l2_c (fun _ _ _ => cg_c) h
theorem k_lsub {k j pc : Nat} {ls st : List av} {S : Sto} {z : Nx} (h : nxt k j pc ls st S (.lsub) = some z) : isC z := by
  exact l2_c (fun _ _ _ => cg_c) h
theorem k_lmul {k j pc : Nat} {ls st : List av} {S : Sto} {z : Nx} (h : nxt k j pc ls st S (.lmul) = some z) : isC z := by
  exact l2_c (fun _ _ _ => cg_c) h
theorem k_land {k j pc : Nat} {ls st : List av} {S : Sto} {z : Nx} (h : nxt k j pc ls st S (.land) = some z) : isC z := by
  exact l2_c (fun _ _ _ => cg_c) h
theorem k_lor {k j pc : Nat} {ls st : List av} {S : Sto} {z : Nx} (h : nxt k j pc ls st S (.lor) = some z) : isC z := by
  exact l2_c (fun _ _ _ => cg_c) h
theorem k_ldiv {k j pc : Nat} {ls st : List av} {S : Sto} {z : Nx} (h : nxt k j pc ls st S (.ldiv) = some z) : isC z := by
  exact l2_c (fun _ _ _ => ite_c no_c cg_c) h
theorem k_lrem {k j pc : Nat} {ls st : List av} {S : Sto} {z : Nx} (h : nxt k j pc ls st S (.lrem) = some z) : isC z := by
  exact l2_c (fun _ _ _ => ite_c no_c cg_c) h
theorem k_lneg {k j pc : Nat} {ls st : List av} {S : Sto} {z : Nx} (h : nxt k j pc ls st S (.lneg) = some z) : isC z := by
  exact l1_c (fun _ _ => cg_c) h
theorem k_lcmp {k j pc : Nat} {ls st : List av} {S : Sto} {z : Nx} (h : nxt k j pc ls st S (.lcmp) = some z) : isC z := by
  exact l2_c (fun _ _ _ => cg_c) h
theorem k_i2l {k j pc : Nat} {ls st : List av} {S : Sto} {z : Nx} (h : nxt k j pc ls st S (.i2l) = some z) : isC z := by
  exact i1_c (fun _ _ => cg_c) h
theorem k_l2i {k j pc : Nat} {ls st : List av} {S : Sto} {z : Nx} (h : nxt k j pc ls st S (.l2i) = some z) : isC z := by
  exact l1_c (fun _ _ => cg_c) h
theorem k_i2b {k j pc : Nat} {ls st : List av} {S : Sto} {z : Nx} (h : nxt k j pc ls st S (.i2b) = some z) : isC z := by
  exact i1_c (fun _ _ => cg_c) h
theorem k_i2c {k j pc : Nat} {ls st : List av} {S : Sto} {z : Nx} (h : nxt k j pc ls st S (.i2c) = some z) : isC z := by
  exact i1_c (fun _ _ => cg_c) h
theorem k_dup {k j pc : Nat} {ls st : List av} {S : Sto} {z : Nx} (h : nxt k j pc ls st S (.dup) = some z) : isC z := by
  simp only [nxt] at h
  split at h
  · exact bif_c cg_c no_c h
  · cases h
theorem k_pop {k j pc : Nat} {ls st : List av} {S : Sto} {z : Nx} (h : nxt k j pc ls st S (.pop) = some z) : isC z := by
  simp only [nxt] at h
  split at h
  · exact bif_c cg_c no_c h
  · cases h
theorem k_dup_x1 {k j pc : Nat} {ls st : List av} {S : Sto} {z : Nx} (h : nxt k j pc ls st S (.dup_x1) = some z) : isC z := by
  simp only [nxt] at h
  split at h
  · exact bif_c cg_c no_c h
  · cases h
theorem k_dup2 {k j pc : Nat} {ls st : List av} {S : Sto} {z : Nx} (h : nxt k j pc ls st S (.dup2) = some z) : isC z := by
  simp only [nxt] at h
  split at h
  · exact bif_c cg_c no_c h
  · cases h
theorem k_goto {k j pc : Nat} {ls st : List av} {S : Sto} {z : Nx} {a0 : _} (h : nxt k j pc ls st S (.goto a0) = some z) : isC z := by
  exact cg_c h
theorem k_tableswitch {k j pc : Nat} {ls st : List av} {S : Sto} {z : Nx} {a0 : _} {a1 : _} {a2 : _} {a3 : _} (h : nxt k j pc ls st S (.tableswitch a0 a1 a2 a3) = some z) : isC z := by
  exact i1_c (fun _ _ => swR_c (fun _ => cg_c)) h
theorem k_lookupswitch {k j pc : Nat} {ls st : List av} {S : Sto} {z : Nx} {a0 : _} {a1 : _} (h : nxt k j pc ls st S (.lookupswitch a0 a1) = some z) : isC z := by
  exact i1_c (fun _ _ => swL_c (fun _ => cg_c)) h
theorem k_getfield {k j pc : Nat} {ls st : List av} {S : Sto} {z : Nx} {a0 : _} (h : nxt k j pc ls st S (.getfield a0) = some z) : isC z := by
  simp only [nxt] at h
  refine r1_c (fun t i r h => ?_) h
  split at h
  · refine bif_c (fun h => ?_) no_c h
    split at h
    · exact cg_c h
    · cases h
  · cases h
theorem k_putfield {k j pc : Nat} {ls st : List av} {S : Sto} {z : Nx} {a0 : _} (h : nxt k j pc ls st S (.putfield a0) = some z) : isC z := by
  simp only [nxt] at h
  split at h
  · split at h
    · refine bif_c (fun h => ?_) no_c h
      split at h
      · exact cg_c h
      · exact ite_c cg_c no_c h
      · cases h
    · refine bif_c (fun h => ?_) no_c h
      split at h
      · exact bif_c cg_c no_c h
      · cases h
    · cases h
  · cases h
theorem k_getstatic {k j pc : Nat} {ls st : List av} {S : Sto} {z : Nx} {a0 : _} (h : nxt k j pc ls st S (.getstatic a0) = some z) : isC z := by
  simp only [nxt] at h
  exact bif_c (bif_c cg_c (bif_c cg_c no_c)) no_c h
theorem k_arraylength {k j pc : Nat} {ls st : List av} {S : Sto} {z : Nx} (h : nxt k j pc ls st S (.arraylength) = some z) : isC z := by
  simp only [nxt] at h
  refine r1_c (fun t i r h => ?_) h
  split at h
  · exact cg_c h
  · cases h
theorem k_iaload {k j pc : Nat} {ls st : List av} {S : Sto} {z : Nx} (h : nxt k j pc ls st S (.iaload) = some z) : isC z := by
  simp only [nxt] at h
  refine ri_c (fun t i x r h => ?_) h
  split at h
  · exact ite_c cg_c no_c h
  · exact ite_c cg_c no_c h
  · cases h
theorem k_laload {k j pc : Nat} {ls st : List av} {S : Sto} {z : Nx} (h : nxt k j pc ls st S (.laload) = some z) : isC z := by
  simp only [nxt] at h
  refine ri_c (fun t i x r h => ?_) h
  split at h
  · exact ite_c cg_c no_c h
  · cases h
theorem k_baload {k j pc : Nat} {ls st : List av} {S : Sto} {z : Nx} (h : nxt k j pc ls st S (.baload) = some z) : isC z := by
  simp only [nxt] at h
  refine ri_c (fun t i x r h => ?_) h
  split at h
  · exact ite_c cg_c no_c h
  · exact ite_c cg_c no_c h
  · exact ite_c cg_c no_c h
  · cases h
theorem k_aaload {k j pc : Nat} {ls st : List av} {S : Sto} {z : Nx} (h : nxt k j pc ls st S (.aaload) = some z) : isC z := by
  simp only [nxt] at h
  refine ri_c (fun t i x r h => ?_) h
  split at h
  · exact ite_c cg_c no_c h
  · cases h
theorem k_iastore {k j pc : Nat} {ls st : List av} {S : Sto} {z : Nx} (h : nxt k j pc ls st S (.iastore) = some z) : isC z := by
  simp only [nxt] at h
  split at h
  · refine ri_c (fun t i x r h => ?_) h
    split at h
    · exact ite_c cg_c no_c h
    · cases h
  · cases h
theorem k_lastore {k j pc : Nat} {ls st : List av} {S : Sto} {z : Nx} (h : nxt k j pc ls st S (.lastore) = some z) : isC z := by
  simp only [nxt] at h
  split at h
  · refine ri_c (fun t i x r h => ?_) h
    split at h
    · exact ite_c cg_c no_c h
    · cases h
  · cases h
theorem k_bastore {k j pc : Nat} {ls st : List av} {S : Sto} {z : Nx} (h : nxt k j pc ls st S (.bastore) = some z) : isC z := by
  simp only [nxt] at h
  split at h
  · refine ri_c (fun t i x r h => ?_) h
    split at h
    · exact ite_c cg_c no_c h
    · exact ite_c cg_c no_c h
    · cases h
  · cases h
theorem k_if_eq {k j pc : Nat} {ls st : List av} {S : Sto} {z : Nx} {o : Int} (h : nxt k j pc ls st S (.ifCond .eq o) = some z) : isC z := i1_c (fun _ _ => ite_c cg_c cg_c) h
theorem k_icmp_eq {k j pc : Nat} {ls st : List av} {S : Sto} {z : Nx} {o : Int} (h : nxt k j pc ls st S (.if_icmp .eq o) = some z) : isC z := i2_c (fun _ _ _ => ite_c cg_c cg_c) h
theorem k_if_ne {k j pc : Nat} {ls st : List av} {S : Sto} {z : Nx} {o : Int} (h : nxt k j pc ls st S (.ifCond .ne o) = some z) : isC z := i1_c (fun _ _ => ite_c cg_c cg_c) h
theorem k_icmp_ne {k j pc : Nat} {ls st : List av} {S : Sto} {z : Nx} {o : Int} (h : nxt k j pc ls st S (.if_icmp .ne o) = some z) : isC z := i2_c (fun _ _ _ => ite_c cg_c cg_c) h
theorem k_if_lt {k j pc : Nat} {ls st : List av} {S : Sto} {z : Nx} {o : Int} (h : nxt k j pc ls st S (.ifCond .lt o) = some z) : isC z := i1_c (fun _ _ => ite_c cg_c cg_c) h
theorem k_icmp_lt {k j pc : Nat} {ls st : List av} {S : Sto} {z : Nx} {o : Int} (h : nxt k j pc ls st S (.if_icmp .lt o) = some z) : isC z := i2_c (fun _ _ _ => ite_c cg_c cg_c) h
theorem k_if_ge {k j pc : Nat} {ls st : List av} {S : Sto} {z : Nx} {o : Int} (h : nxt k j pc ls st S (.ifCond .ge o) = some z) : isC z := i1_c (fun _ _ => ite_c cg_c cg_c) h
theorem k_icmp_ge {k j pc : Nat} {ls st : List av} {S : Sto} {z : Nx} {o : Int} (h : nxt k j pc ls st S (.if_icmp .ge o) = some z) : isC z := i2_c (fun _ _ _ => ite_c cg_c cg_c) h
theorem k_if_gt {k j pc : Nat} {ls st : List av} {S : Sto} {z : Nx} {o : Int} (h : nxt k j pc ls st S (.ifCond .gt o) = some z) : isC z := i1_c (fun _ _ => ite_c cg_c cg_c) h
theorem k_icmp_gt {k j pc : Nat} {ls st : List av} {S : Sto} {z : Nx} {o : Int} (h : nxt k j pc ls st S (.if_icmp .gt o) = some z) : isC z := i2_c (fun _ _ _ => ite_c cg_c cg_c) h
theorem k_if_le {k j pc : Nat} {ls st : List av} {S : Sto} {z : Nx} {o : Int} (h : nxt k j pc ls st S (.ifCond .le o) = some z) : isC z := i1_c (fun _ _ => ite_c cg_c cg_c) h
theorem k_icmp_le {k j pc : Nat} {ls st : List av} {S : Sto} {z : Nx} {o : Int} (h : nxt k j pc ls st S (.if_icmp .le o) = some z) : isC z := i2_c (fun _ _ _ => ite_c cg_c cg_c) h
theorem k_acp {pc : Nat} {ls st : List av} {S : Sto} {z : Nx} (h : acp pc ls st S = some z) : isC z := by
  unfold acp at h
  split at h
  · split at h
    · exact ite_c cg_c no_c h
    · cases h
  · cases h
theorem k_ireturn {k j pc : Nat} {ls st : List av} {S : Sto} {z : Nx} (h : nxt k j pc ls st S .ireturn = some z) : ∃ r, z = .inr (.inr r) := by
  simp only [nxt] at h
  split at h
  · unfold rt at h
    split at h
    · cases h; exact ⟨_, rfl⟩
    · obtain ⟨-, h⟩ := ite_inv h; cases h; exact ⟨_, rfl⟩
    · obtain ⟨-, h⟩ := ite_inv h; cases h; exact ⟨_, rfl⟩
    · obtain ⟨-, h⟩ := ite_inv h; cases h; exact ⟨_, rfl⟩
    · cases h
  · cases h
theorem k_lreturn {k j pc : Nat} {ls st : List av} {S : Sto} {z : Nx} (h : nxt k j pc ls st S .lreturn = some z) : ∃ r, z = .inr (.inr r) := by
  simp only [nxt] at h
  split at h
  · split at h
    · cases h; exact ⟨_, rfl⟩
    · cases h
  · cases h
theorem k_areturn {k j pc : Nat} {ls st : List av} {S : Sto} {z : Nx} (h : nxt k j pc ls st S .areturn = some z) : ∃ r, z = .inr (.inr r) := by
  simp only [nxt] at h
  split at h
  · split at h
    · obtain ⟨-, h⟩ := bif_inv h; cases h; exact ⟨_, rfl⟩
    · cases h
  · cases h
theorem k_return_ {k j pc : Nat} {ls st : List av} {S : Sto} {z : Nx} (h : nxt k j pc ls st S .return_ = some z) : ∃ r, z = .inr (.inr r) := by
  simp only [nxt] at h
  split at h
  · split at h
    · cases h; exact ⟨_, rfl⟩
    · cases h
  · cases h
theorem k_prm {k' pc : Nat} {ls st : List av} {S : Sto} {z : Nx} (h : prm k' pc ls st S = some z) : isC z := by
  unfold prm at h
  split at h
  · exact i2_c (fun _ _ _ => bif_c cg_c no_c) h
  · exact l2_c (fun _ _ _ => bif_c cg_c no_c) h
  · exact l2_c (fun _ _ _ => bif_c cg_c no_c) h
  · exact i2_c (fun _ _ _ => bif_c cg_c no_c) h
  · cases h
section SA
variable {p : Program} {l : Launch} {e : Env} {R : Room} {s : State} {m : MethodId} {args : Array Value} {below : List Frame} {meth : Method} {c : Code} {Q : State → Prop} {g : GE} {k j ce so : Nat}
variable {pc : Nat} {ls st : List av} {S : Sto}
theorem b1_ {n a : Nat} (h : Nat.beq n a = true) : n = a := Nat.eq_of_beq_eq_true h
set_option maxHeartbeats 16000000 in
/-- one instruction: it goes on, it calls, it returns -/
theorem stepA (X : Cx p s m args c g k) (hR : 1 ≤ R.frames ∧ 60 ≤ R.locals) (hC : ce ≤ R.cells ∧ so ≤ R.slots) {ins : Instr} {n : Nat} (hd : decode (m_b k) pc = .ok (ins, n)) (hI : insOk k pc ins n = true) {z : Nx} (h : nxt k j pc ls st S ins = some z)
    (Kc : ∀ cf, z = .inl cf → WA p l e R s m args below meth c ce so Q g k cf)
    (Kl : ∀ kd idx, decode (m_b k) pc = .ok (if kd = 0 then .invokevirtual idx else .invokestatic idx, 3) → cl k j pc ls st S kd idx = some z → (kd = 0 ∨ prO k idx = none) → (ins = if kd = 0 then .invokevirtual idx else .invokestatic idx) → WA p l e R s m args below meth c ce so Q g k (pc, ls, st, S))
    (Kr : ∀ r, z = .inr (.inr r) → decode (m_b k) pc = .ok (ins, 1) → (ins = .ireturn ∨ ins = .lreturn ∨ ins = .areturn ∨ ins = .return_) → WA p l e R s m args below meth c ce so Q g k (pc, ls, st, S)) : WA p l e R s m args below meth c ce so Q g k (pc, ls, st, S) := by
  cases ins with
  | iconst a0 =>
    obtain ⟨cf, rfl⟩ := k_iconst h
    have e := b1_ hI
    subst e
    exact q_iconst X hd h (Kc cf rfl)
  | bipush a0 =>
    obtain ⟨cf, rfl⟩ := k_bipush h
    have e := b1_ hI
    subst e
    exact q_bipush X hd h (Kc cf rfl)
  | sipush a0 =>
    obtain ⟨cf, rfl⟩ := k_sipush h
    have e := b1_ hI
    subst e
    exact q_sipush X hd h (Kc cf rfl)
  | lconst a0 =>
    obtain ⟨cf, rfl⟩ := k_lconst h
    have e := b1_ hI
    subst e
    exact q_lconst X hd h (Kc cf rfl)
  | ldc a0 =>
    obtain ⟨cf, rfl⟩ := k_ldc h
    have e := b1_ hI
    subst e
    exact q_ldc X hd h (Kc cf rfl)
  | ldc_w a0 =>
    obtain ⟨cf, rfl⟩ := k_ldc_w h
    have e := b1_ hI
    subst e
    exact q_ldc_w X hd h (Kc cf rfl)
  | ldc2_w a0 =>
    obtain ⟨cf, rfl⟩ := k_ldc2_w h
    have e := b1_ hI
    subst e
    exact q_ldc2_w X hd h (Kc cf rfl)
  | iload a0 =>
    obtain ⟨cf, rfl⟩ := k_iload h
    have e := b1_ hI
    subst e
    exact q_iload X hd h (Kc cf rfl)
  | iload_n a0 =>
    obtain ⟨cf, rfl⟩ := k_iload_n h
    have e := b1_ hI
    subst e
    exact q_iload_n X hd h (Kc cf rfl)
  | lload a0 =>
    obtain ⟨cf, rfl⟩ := k_lload h
    have e := b1_ hI
    subst e
    exact q_lload X hd h (Kc cf rfl)
  | lload_n a0 =>
    obtain ⟨cf, rfl⟩ := k_lload_n h
    have e := b1_ hI
    subst e
    exact q_lload_n X hd h (Kc cf rfl)
  | aload a0 =>
    obtain ⟨cf, rfl⟩ := k_aload h
    have e := b1_ hI
    subst e
    exact q_aload X hd h (Kc cf rfl)
  | aload_n a0 =>
    obtain ⟨cf, rfl⟩ := k_aload_n h
    have e := b1_ hI
    subst e
    exact q_aload_n X hd h (Kc cf rfl)
  | istore a0 =>
    obtain ⟨cf, rfl⟩ := k_istore h
    have hI := (Bool.and_eq_true _ _).mp hI
    have e := b1_ hI.1
    subst e
    exact q_istore X hI.2 hd h (Kc cf rfl)
  | istore_n a0 =>
    obtain ⟨cf, rfl⟩ := k_istore_n h
    have hI := (Bool.and_eq_true _ _).mp hI
    have e := b1_ hI.1
    subst e
    exact q_istore_n X hI.2 hd h (Kc cf rfl)
  | lstore a0 =>
    obtain ⟨cf, rfl⟩ := k_lstore h
    have hI := (Bool.and_eq_true _ _).mp hI
    have e := b1_ hI.1
    subst e
    exact q_lstore X hI.2 hd h (Kc cf rfl)
  | lstore_n a0 =>
    obtain ⟨cf, rfl⟩ := k_lstore_n h
    have hI := (Bool.and_eq_true _ _).mp hI
    have e := b1_ hI.1
    subst e
    exact q_lstore_n X hI.2 hd h (Kc cf rfl)
  | astore a0 =>
    obtain ⟨cf, rfl⟩ := k_astore h
    have hI := (Bool.and_eq_true _ _).mp hI
    have e := b1_ hI.1
    subst e
    exact q_astore X hI.2 hd h (Kc cf rfl)
  | astore_n a0 =>
    obtain ⟨cf, rfl⟩ := k_astore_n h
    have hI := (Bool.and_eq_true _ _).mp hI
    have e := b1_ hI.1
    subst e
    exact q_astore_n X hI.2 hd h (Kc cf rfl)
  | iinc a0 a1 =>
    obtain ⟨cf, rfl⟩ := k_iinc h
    have hI := (Bool.and_eq_true _ _).mp hI
    have e := b1_ hI.1
    subst e
    exact q_iinc X hI.2 hd h (Kc cf rfl)
  | iadd =>
    obtain ⟨cf, rfl⟩ := k_iadd h
    have e : n = 1 := b1_ (((Bool.or_eq_true _ _).mp hI).resolve_right (fun e => by cases e))
    subst e
    exact q_iadd X hd h (Kc cf rfl)
  | isub =>
    obtain ⟨cf, rfl⟩ := k_isub h
    have e : n = 1 := b1_ (((Bool.or_eq_true _ _).mp hI).resolve_right (fun e => by cases e))
    subst e
    exact q_isub X hd h (Kc cf rfl)
  | imul =>
    obtain ⟨cf, rfl⟩ := k_imul h
    have e : n = 1 := b1_ (((Bool.or_eq_true _ _).mp hI).resolve_right (fun e => by cases e))
    subst e
    exact q_imul X hd h (Kc cf rfl)
  | iand =>
    obtain ⟨cf, rfl⟩ := k_iand h
    have e : n = 1 := b1_ (((Bool.or_eq_true _ _).mp hI).resolve_right (fun e => by cases e))
    subst e
    exact q_iand X hd h (Kc cf rfl)
  | ior =>
    obtain ⟨cf, rfl⟩ := k_ior h
    have e : n = 1 := b1_ (((Bool.or_eq_true _ _).mp hI).resolve_right (fun e => by cases e))
    subst e
    exact q_ior X hd h (Kc cf rfl)
  | ixor =>
    obtain ⟨cf, rfl⟩ := k_ixor h
    have e : n = 1 := b1_ (((Bool.or_eq_true _ _).mp hI).resolve_right (fun e => by cases e))
    subst e
    exact q_ixor X hd h (Kc cf rfl)
  | ishl =>
    obtain ⟨cf, rfl⟩ := k_ishl h
    have e : n = 1 := b1_ (((Bool.or_eq_true _ _).mp hI).resolve_right (fun e => by cases e))
    subst e
    exact q_ishl X hd h (Kc cf rfl)
  | ishr =>
    obtain ⟨cf, rfl⟩ := k_ishr h
    have e : n = 1 := b1_ (((Bool.or_eq_true _ _).mp hI).resolve_right (fun e => by cases e))
    subst e
    exact q_ishr X hd h (Kc cf rfl)
  | iushr =>
    obtain ⟨cf, rfl⟩ := k_iushr h
    have e : n = 1 := b1_ (((Bool.or_eq_true _ _).mp hI).resolve_right (fun e => by cases e))
    subst e
    exact q_iushr X hd h (Kc cf rfl)
  | idiv =>
    obtain ⟨cf, rfl⟩ := k_idiv h
    have e : n = 1 := b1_ (((Bool.or_eq_true _ _).mp hI).resolve_right (fun e => by cases e))
    subst e
    exact q_idiv X hd h (Kc cf rfl)
  | irem =>
    obtain ⟨cf, rfl⟩ := k_irem h
    have e : n = 1 := b1_ (((Bool.or_eq_true _ _).mp hI).resolve_right (fun e => by cases e))
    subst e
    exact q_irem X hd h (Kc cf rfl)
  | ineg =>
    obtain ⟨cf, rfl⟩ := k_ineg h
    have e : n = 1 := b1_ (((Bool.or_eq_true _ _).mp hI).resolve_right (fun e => by cases e))
    subst e
    exact q_ineg X hd h (Kc cf rfl)
  | ladd =>
    obtain ⟨cf, rfl⟩ := k_ladd h
    have e : n = 1 := b1_ (((Bool.or_eq_true _ _).mp hI).resolve_right (fun e => by cases e))
    subst e
    exact q_ladd X hd h (Kc cf rfl)
  | lsub =>
    obtain ⟨cf, rfl⟩ := k_lsub h
    have e : n = 1 := b1_ (((Bool.or_eq_true _ _).mp hI).resolve_right (fun e => by cases e))
    subst e
    exact q_lsub X hd h (Kc cf rfl)
  | lmul =>
    obtain ⟨cf, rfl⟩ := k_lmul h
    have e : n = 1 := b1_ (((Bool.or_eq_true _ _).mp hI).resolve_right (fun e => by cases e))
    subst e
    exact q_lmul X hd h (Kc cf rfl)
  | land =>
    obtain ⟨cf, rfl⟩ := k_land h
    have e : n = 1 := b1_ (((Bool.or_eq_true _ _).mp hI).resolve_right (fun e => by cases e))
    subst e
    exact q_land X hd h (Kc cf rfl)
  | lor =>
    obtain ⟨cf, rfl⟩ := k_lor h
    have e : n = 1 := b1_ (((Bool.or_eq_true _ _).mp hI).resolve_right (fun e => by cases e))
    subst e
    exact q_lor X hd h (Kc cf rfl)
  | ldiv =>
    obtain ⟨cf, rfl⟩ := k_ldiv h
    have e : n = 1 := b1_ (((Bool.or_eq_true _ _).mp hI).resolve_right (fun e => by cases e))
    subst e
    exact q_ldiv X hd h (Kc cf rfl)
  | lrem =>
    obtain ⟨cf, rfl⟩ := k_lrem h
    have e : n = 1 := b1_ (((Bool.or_eq_true _ _).mp hI).resolve_right (fun e => by cases e))
    subst e
    exact q_lrem X hd h (Kc cf rfl)
  | lneg =>
    obtain ⟨cf, rfl⟩ := k_lneg h
    have e : n = 1 := b1_ (((Bool.or_eq_true _ _).mp hI).resolve_right (fun e => by cases e))
    subst e
    exact q_lneg X hd h (Kc cf rfl)
  | lcmp =>
    obtain ⟨cf, rfl⟩ := k_lcmp h
    have e : n = 1 := b1_ (((Bool.or_eq_true _ _).mp hI).resolve_right (fun e => by cases e))
    subst e
    exact q_lcmp X hd h (Kc cf rfl)
  | i2l =>
    obtain ⟨cf, rfl⟩ := k_i2l h
    have e : n = 1 := b1_ (((Bool.or_eq_true _ _).mp hI).resolve_right (fun e => by cases e))
    subst e
    exact q_i2l X hd h (Kc cf rfl)
  | l2i =>
    obtain ⟨cf, rfl⟩ := k_l2i h
    have e : n = 1 := b1_ (((Bool.or_eq_true _ _).mp hI).resolve_right (fun e => by cases e))
    subst e
    exact q_l2i X hd h (Kc cf rfl)
  | i2b =>
    obtain ⟨cf, rfl⟩ := k_i2b h
    have e : n = 1 := b1_ (((Bool.or_eq_true _ _).mp hI).resolve_right (fun e => by cases e))
    subst e
    exact q_i2b X hd h (Kc cf rfl)
  | i2c =>
    obtain ⟨cf, rfl⟩ := k_i2c h
    have e : n = 1 := b1_ (((Bool.or_eq_true _ _).mp hI).resolve_right (fun e => by cases e))
    subst e
    exact q_i2c X hd h (Kc cf rfl)
  | dup =>
    obtain ⟨cf, rfl⟩ := k_dup h
    have e : n = 1 := b1_ (((Bool.or_eq_true _ _).mp hI).resolve_right (fun e => by cases e))
    subst e
    exact q_dup X hd h (Kc cf rfl)
  | pop =>
    obtain ⟨cf, rfl⟩ := k_pop h
    have e : n = 1 := b1_ (((Bool.or_eq_true _ _).mp hI).resolve_right (fun e => by cases e))
    subst e
    exact q_pop X hd h (Kc cf rfl)
  | dup_x1 =>
    obtain ⟨cf, rfl⟩ := k_dup_x1 h
    have e : n = 1 := b1_ (((Bool.or_eq_true _ _).mp hI).resolve_right (fun e => by cases e))
    subst e
    exact q_dup_x1 X hd h (Kc cf rfl)
  | dup2 =>
    obtain ⟨cf, rfl⟩ := k_dup2 h
    have e : n = 1 := b1_ (((Bool.or_eq_true _ _).mp hI).resolve_right (fun e => by cases e))
    subst e
    exact q_dup2 X hd h (Kc cf rfl)
  | goto a0 =>
    obtain ⟨cf, rfl⟩ := k_goto h
    have hI := (Bool.and_eq_true _ _).mp hI
    have e := b1_ hI.1
    subst e
    exact q_goto X hI.2 hd h (Kc cf rfl)
  | tableswitch a0 a1 a2 a3 =>
    obtain ⟨cf, rfl⟩ := k_tableswitch h
    exact q_tableswitch X hI hd h (Kc cf rfl)
  | lookupswitch a0 a1 =>
    obtain ⟨cf, rfl⟩ := k_lookupswitch h
    exact q_lookupswitch X hI hd h (Kc cf rfl)
  | getfield a0 =>
    obtain ⟨cf, rfl⟩ := k_getfield h
    have e := b1_ hI
    subst e
    exact q_getfield X hd h (Kc cf rfl)
  | putfield a0 =>
    obtain ⟨cf, rfl⟩ := k_putfield h
    have e := b1_ hI
    subst e
    exact q_putfield X hd h (Kc cf rfl)
  | getstatic a0 =>
    obtain ⟨cf, rfl⟩ := k_getstatic h
    have e := b1_ hI
    subst e
    exact q_getstatic X hd h (Kc cf rfl)
  | arraylength =>
    obtain ⟨cf, rfl⟩ := k_arraylength h
    have e : n = 1 := b1_ (((Bool.or_eq_true _ _).mp hI).resolve_right (fun e => by cases e))
    subst e
    exact q_arraylength X hd h (Kc cf rfl)
  | iaload =>
    obtain ⟨cf, rfl⟩ := k_iaload h
    have e : n = 1 := b1_ (((Bool.or_eq_true _ _).mp hI).resolve_right (fun e => by cases e))
    subst e
    exact q_iaload X hd h (Kc cf rfl)
  | laload =>
    obtain ⟨cf, rfl⟩ := k_laload h
    have e : n = 1 := b1_ (((Bool.or_eq_true _ _).mp hI).resolve_right (fun e => by cases e))
    subst e
    exact q_laload X hd h (Kc cf rfl)
  | baload =>
    obtain ⟨cf, rfl⟩ := k_baload h
    have e : n = 1 := b1_ (((Bool.or_eq_true _ _).mp hI).resolve_right (fun e => by cases e))
    subst e
    exact q_baload X hd h (Kc cf rfl)
  | aaload =>
    obtain ⟨cf, rfl⟩ := k_aaload h
    have e : n = 1 := b1_ (((Bool.or_eq_true _ _).mp hI).resolve_right (fun e => by cases e))
    subst e
    exact q_aaload X hd h (Kc cf rfl)
  | iastore =>
    obtain ⟨cf, rfl⟩ := k_iastore h
    have e : n = 1 := b1_ (((Bool.or_eq_true _ _).mp hI).resolve_right (fun e => by cases e))
    subst e
    exact q_iastore X hd h (Kc cf rfl)
  | lastore =>
    obtain ⟨cf, rfl⟩ := k_lastore h
    have e : n = 1 := b1_ (((Bool.or_eq_true _ _).mp hI).resolve_right (fun e => by cases e))
    subst e
    exact q_lastore X hd h (Kc cf rfl)
  | bastore =>
    obtain ⟨cf, rfl⟩ := k_bastore h
    have e : n = 1 := b1_ (((Bool.or_eq_true _ _).mp hI).resolve_right (fun e => by cases e))
    subst e
    exact q_bastore X hd h (Kc cf rfl)
  | ifCond cc o =>
    have hI2 := (Bool.and_eq_true _ _).mp hI
    have e := b1_ hI2.1
    subst e
    cases cc with
    | eq =>
      obtain ⟨cf, rfl⟩ := k_if_eq h
      exact q_if_eq X hI2.2 hd h (Kc cf rfl)
    | ne =>
      obtain ⟨cf, rfl⟩ := k_if_ne h
      exact q_if_ne X hI2.2 hd h (Kc cf rfl)
    | lt =>
      obtain ⟨cf, rfl⟩ := k_if_lt h
      exact q_if_lt X hI2.2 hd h (Kc cf rfl)
    | ge =>
      obtain ⟨cf, rfl⟩ := k_if_ge h
      exact q_if_ge X hI2.2 hd h (Kc cf rfl)
    | gt =>
      obtain ⟨cf, rfl⟩ := k_if_gt h
      exact q_if_gt X hI2.2 hd h (Kc cf rfl)
    | le =>
      obtain ⟨cf, rfl⟩ := k_if_le h
      exact q_if_le X hI2.2 hd h (Kc cf rfl)
  | if_icmp cc o =>
    have hI2 := (Bool.and_eq_true _ _).mp hI
    have e := b1_ hI2.1
    subst e
    cases cc with
    | eq =>
      obtain ⟨cf, rfl⟩ := k_icmp_eq h
      exact q_icmp_eq X hI2.2 hd h (Kc cf rfl)
    | ne =>
      obtain ⟨cf, rfl⟩ := k_icmp_ne h
      exact q_icmp_ne X hI2.2 hd h (Kc cf rfl)
    | lt =>
      obtain ⟨cf, rfl⟩ := k_icmp_lt h
      exact q_icmp_lt X hI2.2 hd h (Kc cf rfl)
    | ge =>
      obtain ⟨cf, rfl⟩ := k_icmp_ge h
      exact q_icmp_ge X hI2.2 hd h (Kc cf rfl)
    | gt =>
      obtain ⟨cf, rfl⟩ := k_icmp_gt h
      exact q_icmp_gt X hI2.2 hd h (Kc cf rfl)
    | le =>
      obtain ⟨cf, rfl⟩ := k_icmp_le h
      exact q_icmp_le X hI2.2 hd h (Kc cf rfl)
  | invokevirtual idx =>
    have e := b1_ hI
    subst e
    exact Kl 0 idx hd h (Or.inl rfl) rfl
  | invokestatic idx =>
    have e := b1_ hI
    subst e
    simp only [nxt] at h
    cases hb : (Nat.beq (m_o k) 6 && Nat.beq idx 83) with
    | true =>
      rw [hb] at h
      have hb := (Bool.and_eq_true _ _).mp hb
      have e2 := b1_ hb.2
      subst e2
      obtain ⟨cf, rfl⟩ := k_acp h
      exact q_acp X (b1_ hb.1) hR hd h (Kc cf rfl)
    | false =>
      rw [hb] at h
      simp only [cond_false] at h
      cases hp : prO k idx with
      | some k' =>
        rw [hp] at h
        obtain ⟨cf, rfl⟩ := k_prm h
        exact q_prm X hp hR hC hd h (Kc cf rfl)
      | none =>
        rw [hp] at h
        exact Kl 1 idx hd h (Or.inr hp) rfl
  | ireturn =>
    have e : n = 1 := b1_ (((Bool.or_eq_true _ _).mp hI).resolve_right (fun e => by cases e))
    subst e
    obtain ⟨r, rfl⟩ := k_ireturn h
    exact Kr r rfl hd (by simp)
  | lreturn =>
    have e : n = 1 := b1_ (((Bool.or_eq_true _ _).mp hI).resolve_right (fun e => by cases e))
    subst e
    obtain ⟨r, rfl⟩ := k_lreturn h
    exact Kr r rfl hd (by simp)
  | areturn =>
    have e : n = 1 := b1_ (((Bool.or_eq_true _ _).mp hI).resolve_right (fun e => by cases e))
    subst e
    obtain ⟨r, rfl⟩ := k_areturn h
    exact Kr r rfl hd (by simp)
  | return_ =>
    have e : n = 1 := b1_ (((Bool.or_eq_true _ _).mp hI).resolve_right (fun e => by cases e))
    subst e
    obtain ⟨r, rfl⟩ := k_return_ h
    exact Kr r rfl hd (by simp)
  | _ => exact absurd h (by intro h; cases h)
end SA
