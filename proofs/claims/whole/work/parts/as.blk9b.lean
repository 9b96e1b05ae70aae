/-! the reference's cells, the world -/
def tg9 (i : Nat) : List (Nat × Nat) := [(50, i), (51, i), (52, i), (53, i), (54, i), (55, i), (56, i), (57, i), (58, i), (59, i), (60, i), (61, i), (62, i), (63, i), (64, i), (65, i), (66, i), (67, i), (68, i), (69, i), (70, i), (71, i), (72, i), (73, i), (74, i), (75, i), (76, i), (77, i), (78, i), (79, i), (80, i), (81, i), (82, i), (83, i), (84, i), (85, i), (86, i), (87, i), (88, i), (89, i), (90, i), (91, i), (92, i), (93, i), (94, i), (95, i), (96, i), (97, i), (98, i)]
set_option maxRecDepth 100000 in
set_option maxHeartbeats 4000000 in
theorem blk9 {g : GE} {xs : Nat → Int32} {L i q : Nat} {u : List Nat} (e50 : g_a g 50 i = q) (e51 : g_a g 51 i = ua u 0) (e52 : g_a g 52 i = ua u 1) (e53 : g_a g 53 i = ua u 2) (e54 : g_a g 54 i = ua u 3) (e55 : g_a g 55 i = ua u 4) (e56 : g_a g 56 i = ua u 5) (e57 : g_a g 57 i = ua u 6) (e58 : g_a g 58 i = ua u 7) (e59 : g_a g 59 i = ua u 8) (e60 : g_a g 60 i = ua u 9) (e61 : g_a g 61 i = ua u 10) (e62 : g_a g 62 i = ua u 11) (e63 : g_a g 63 i = ua u 12) (e64 : g_a g 64 i = ua u 13) (e65 : g_a g 65 i = ua u 14) (e66 : g_a g 66 i = ua u 15) (e67 : g_a g 67 i = ua u 16) (e68 : g_a g 68 i = ua u 17) (e69 : g_a g 69 i = ua u 18) (e70 : g_a g 70 i = ua u 19) (e71 : g_a g 71 i = ua u 20) (e72 : g_a g 72 i = ua u 21) (e73 : g_a g 73 i = ua u 22) (e74 : g_a g 74 i = ua u 23) (e75 : g_a g 75 i = ua u 24) (e76 : g_a g 76 i = ua u 25) (e77 : g_a g 77 i = ua u 26) (e78 : g_a g 78 i = ua u 27) (e79 : g_a g 79 i = ua u 28) (e80 : g_a g 80 i = ua u 29) (e81 : g_a g 81 i = ua u 30) (e82 : g_a g 82 i = ua u 31) (e83 : g_a g 83 i = ua u 32) (e84 : g_a g 84 i = ua u 33) (e85 : g_a g 85 i = ua u 34) (e86 : g_a g 86 i = ua u 35) (e87 : g_a g 87 i = ua u 36) (e88 : g_a g 88 i = ua u 37) (e89 : g_a g 89 i = ua u 38) (e90 : g_a g 90 i = ua u 39) (e91 : g_a g 91 i = ua u 40) (e92 : g_a g 92 i = ua u 41) (e93 : g_a g 93 i = ua u 42) (e94 : g_a g 94 i = ua u 43) (e95 : g_a g 95 i = ua u 44) (e96 : g_a g 96 i = ua u 45) (e97 : g_a g 97 i = ua u 46) (e98 : g_a g 98 i = ua u 47) : lfA (g_A g) 9 its9 u q = (tg9 i).map (fun z => (g_a g z.1 z.2, cel g (S0 xs L) z.1 z.2)) := by
  have c1 : cel g (S0 xs L) 50 i = .inr (9, [.int 0, .ref (g_a g 51 i), .ref (g_a g 52 i), .ref (g_a g 53 i), .ref (g_a g 54 i), .ref (g_a g 55 i), .ref (g_a g 56 i), .ref (g_a g 57 i), .ref (g_a g 58 i), .ref (g_a g 59 i), .ref (g_a g 60 i), .ref (g_a g 61 i), .ref (g_a g 62 i), .ref (g_a g 63 i), .ref (g_a g 64 i), .ref (g_a g 65 i), .ref (g_a g 66 i), .int 0, .int 0, .int 0, .int 0, .int 0, .int 0, .int 0, .int 0, .int 0, .int 11, .ref (g_a g 67 i), .ref (g_a g 68 i), .ref (g_a g 69 i), .ref (g_a g 70 i), .ref (g_a g 71 i), .ref (g_a g 72 i), .ref (g_a g 73 i), .ref (g_a g 74 i), .ref (g_a g 75 i), .ref (g_a g 76 i), .ref (g_a g 77 i), .ref (g_a g 78 i), .ref (g_a g 79 i), .ref (g_a g 80 i), .ref (g_a g 81 i), .ref (g_a g 82 i), .ref (g_a g 83 i), .ref (g_a g 84 i), .ref (g_a g 85 i), .int 0, .ref (g_a g 86 i), .ref (g_a g 87 i), .ref (g_a g 88 i), .ref (g_a g 89 i), .ref (g_a g 90 i), .ref (g_a g 91 i), .ref (g_a g 92 i), .ref (g_a g 93 i), .ref (g_a g 94 i), .ref (g_a g 95 i), .ref (g_a g 96 i), .ref (g_a g 97 i), .ref (g_a g 98 i), .int 0, .int 0]) := by
    show (Sum.inr (9, List.mapIdx (fvc g (S0 xs L) 50 i) [(0, 0, 0), (1, 51, 0), (1, 52, 0), (1, 53, 0), (1, 54, 0), (1, 55, 0), (1, 56, 0), (1, 57, 0), (1, 58, 0), (1, 59, 0), (1, 60, 0), (1, 61, 0), (1, 62, 0), (1, 63, 0), (1, 64, 0), (1, 65, 0), (1, 66, 0), (0, 0, 0), (0, 0, 0), (0, 0, 0), (0, 0, 0), (0, 0, 0), (0, 0, 0), (0, 0, 0), (0, 0, 0), (0, 0, 0), (0, 0, 0), (1, 67, 0), (1, 68, 0), (1, 69, 0), (1, 70, 0), (1, 71, 0), (1, 72, 0), (1, 73, 0), (1, 74, 0), (1, 75, 0), (1, 76, 0), (1, 77, 0), (1, 78, 0), (1, 79, 0), (1, 80, 0), (1, 81, 0), (1, 82, 0), (1, 83, 0), (1, 84, 0), (1, 85, 0), (0, 0, 0), (1, 86, 0), (1, 87, 0), (1, 88, 0), (1, 89, 0), (1, 90, 0), (1, 91, 0), (1, 92, 0), (1, 93, 0), (1, 94, 0), (1, 95, 0), (1, 96, 0), (1, 97, 0), (1, 98, 0), (0, 0, 0), (4, 0, 0)]) : va_E) = _
    simp only [List.mapIdx_cons, List.mapIdx_nil]
    rfl
  have c51 : cel g (S0 xs L) 51 i = .inl (g_A g 1, zr 1 6) := rfl
  have c52 : cel g (S0 xs L) 52 i = .inl (g_A g 1, zr 1 12) := rfl
  have c53 : cel g (S0 xs L) 53 i = .inl (g_A g 1, zr 1 12) := rfl
  have c54 : cel g (S0 xs L) 54 i = .inl (g_A g 1, zr 1 12) := rfl
  have c55 : cel g (S0 xs L) 55 i = .inl (g_A g 1, zr 1 144) := rfl
  have c56 : cel g (S0 xs L) 56 i = .inl (g_A g 1, zr 1 144) := rfl
  have c57 : cel g (S0 xs L) 57 i = .inl (g_A g 1, zr 1 144) := rfl
  have c58 : cel g (S0 xs L) 58 i = .inl (g_A g 1, zr 1 24) := rfl
  have c59 : cel g (S0 xs L) 59 i = .inl (g_A g 1, zr 1 24) := rfl
  have c60 : cel g (S0 xs L) 60 i = .inl (g_A g 1, zr 1 24) := rfl
  have c61 : cel g (S0 xs L) 61 i = .inl (g_A g 1, zr 1 12) := rfl
  have c62 : cel g (S0 xs L) 62 i = .inl (g_A g 1, zr 1 12) := rfl
  have c63 : cel g (S0 xs L) 63 i = .inl (g_A g 1, zr 1 12) := rfl
  have c64 : cel g (S0 xs L) 64 i = .inl (g_A g 1, zr 1 12) := rfl
  have c65 : cel g (S0 xs L) 65 i = .inl (g_A g 1, zr 1 12) := rfl
  have c66 : cel g (S0 xs L) 66 i = .inl (g_A g 1, zr 1 12) := rfl
  have c67 : cel g (S0 xs L) 67 i = .inl (g_A g 3, zr 3 400) := rfl
  have c68 : cel g (S0 xs L) 68 i = .inl (g_A g 1, zr 1 1800) := rfl
  have c69 : cel g (S0 xs L) 69 i = .inl (g_A g 1, zr 1 1800) := rfl
  have c70 : cel g (S0 xs L) 70 i = .inl (g_A g 1, zr 1 6) := rfl
  have c71 : cel g (S0 xs L) 71 i = .inl (g_A g 1, zr 1 72) := rfl
  have c72 : cel g (S0 xs L) 72 i = .inl (g_A g 1, zr 1 72) := rfl
  have c73 : cel g (S0 xs L) 73 i = .inl (g_A g 1, zr 1 72) := rfl
  have c74 : cel g (S0 xs L) 74 i = .inl (g_A g 1, zr 1 72) := rfl
  have c75 : cel g (S0 xs L) 75 i = .inl (g_A g 1, zr 1 402) := rfl
  have c76 : cel g (S0 xs L) 76 i = .inl (g_A g 2, zr 2 11) := rfl
  have c77 : cel g (S0 xs L) 77 i = .inl (g_A g 2, zr 2 300) := rfl
  have c78 : cel g (S0 xs L) 78 i = .inl (g_A g 1, zr 1 12) := rfl
  have c79 : cel g (S0 xs L) 79 i = .inl (g_A g 1, zr 1 12) := rfl
  have c80 : cel g (S0 xs L) 80 i = .inl (g_A g 1, zr 1 12) := rfl
  have c81 : cel g (S0 xs L) 81 i = .inl (g_A g 1, zr 1 144) := rfl
  have c82 : cel g (S0 xs L) 82 i = .inl (g_A g 1, zr 1 144) := rfl
  have c83 : cel g (S0 xs L) 83 i = .inl (g_A g 1, zr 1 12) := rfl
  have c84 : cel g (S0 xs L) 84 i = .inl (g_A g 1, zr 1 6) := rfl
  have c85 : cel g (S0 xs L) 85 i = .inl (g_A g 1, zr 1 12) := rfl
  have c86 : cel g (S0 xs L) 86 i = .inl (g_A g 4, zr 4 4096) := rfl
  have c87 : cel g (S0 xs L) 87 i = .inl (g_A g 1, zr 1 4096) := rfl
  have c88 : cel g (S0 xs L) 88 i = .inl (g_A g 1, zr 1 24) := rfl
  have c89 : cel g (S0 xs L) 89 i = .inl (g_A g 1, zr 1 24) := rfl
  have c90 : cel g (S0 xs L) 90 i = .inl (g_A g 1, zr 1 6) := rfl
  have c91 : cel g (S0 xs L) 91 i = .inl (g_A g 1, zr 1 6) := rfl
  have c92 : cel g (S0 xs L) 92 i = .inl (g_A g 1, zr 1 24) := rfl
  have c93 : cel g (S0 xs L) 93 i = .inl (g_A g 1, zr 1 24) := rfl
  have c94 : cel g (S0 xs L) 94 i = .inl (g_A g 1, zr 1 12) := rfl
  have c95 : cel g (S0 xs L) 95 i = .inl (g_A g 4, zr 4 12) := rfl
  have c96 : cel g (S0 xs L) 96 i = .inl (g_A g 1, zr 1 12) := rfl
  have c97 : cel g (S0 xs L) 97 i = .inl (g_A g 1, zr 1 2480) := rfl
  have c98 : cel g (S0 xs L) 98 i = .inl (g_A g 4, zr 4 4) := rfl
  rw [lfA_2, f9_eq, w9_eq]
  simp only [tg9, List.map_cons, List.map_nil, c1, c51, c52, c53, c54, c55, c56, c57, c58, c59, c60, c61, c62, c63, c64, c65, c66, c67, c68, c69, c70, c71, c72, c73, c74, c75, c76, c77, c78, c79, c80, c81, c82, c83, c84, c85, c86, c87, c88, c89, c90, c91, c92, c93, c94, c95, c96, c97, c98, e50, e51, e52, e53, e54, e55, e56, e57, e58, e59, e60, e61, e62, e63, e64, e65, e66, e67, e68, e69, e70, e71, e72, e73, e74, e75, e76, e77, e78, e79, e80, e81, e82, e83, e84, e85, e86, e87, e88, e89, e90, e91, e92, e93, e94, e95, e96, e97, e98]
def lyC : List (Nat × Nat) := ((0, 0) :: (14, 0) :: (16, 0) :: (tg6 0 ++ (tg6 1 ++ ([(15, 0)] ++ (tg5 0 ++ (tg2 0 ++ (tg3 0 ++ (tg4 0 ++ (tg0 0 ++ (tg7 0 ++ (tg6 2 ++ (tg6 3 ++ (tg6 4 ++ (tg6 5 ++ (tg1 0 ++ (tg1 1 ++ (tg1 2 ++ (tg1 3 ++ (tg1 4 ++ (tg1 5)))))))))))))))))))) ++ tg9 0
theorem lyC_perm : lyC.Perm lay := List.isPerm_iff.mp (by decide +kernel)
def gOf (D : va_G) (cA : Nat → ClassId) (h0 : Nat) (v : List (Nat × List Nat)) (bM : Nat × List Nat) (K V : Nat → Nat) (f : Value) (b L : Nat) (xs : Nat → Int32) : GE := (D.1, D.2, adr h0 v bM, cA, K, V, f, b, L, xs)
set_option maxRecDepth 100000 in
set_option maxHeartbeats 8000000 in
theorem world_eq (D : va_G) (cA : Nat → ClassId) (h0 : Nat) (v : List (Nat × List Nat)) (bM : Nat × List Nat) (K V : Nat → Nat) (f : Value) (b L : Nat) (xs : Nat → Int32) (F : Nat × Nat → Nat × va_E) (hF : F = fun z => (g_a (gOf D cA h0 v bM K V f b L xs) z.1 z.2, cel (gOf D cA h0 v bM K V f b L xs) (S0 xs L) z.1 z.2)) : oW cA h0 v ++ lfA cA 9 its9 bM.2 bM.1 = lyC.map F := by
  have a0 : lfA cA 6 its6 (vu v 0) (vq v 0) = (tg6 0).map F := by
    rw [hF]
    exact blk6 (g := gOf D cA h0 v bM K V f b L xs) (i := 0) rfl rfl rfl rfl rfl rfl rfl rfl rfl rfl rfl rfl rfl
  have a1 : lfA cA 6 its6 (vu v 1) (vq v 1) = (tg6 1).map F := by
    rw [hF]
    exact blk6 (g := gOf D cA h0 v bM K V f b L xs) (i := 1) rfl rfl rfl rfl rfl rfl rfl rfl rfl rfl rfl rfl rfl
  have a2 : lfA cA 5 its5 (vu v 2) (vq v 2) = (tg5 0).map F := by
    rw [hF]
    exact blk5 (g := gOf D cA h0 v bM K V f b L xs) (i := 0) rfl rfl
  have a3 : lfA cA 2 its2 (vu v 3) (vq v 3) = (tg2 0).map F := by
    rw [hF]
    exact blk2 (g := gOf D cA h0 v bM K V f b L xs) (i := 0) rfl rfl rfl rfl
  have a4 : lfA cA 3 its3 (vu v 4) (vq v 4) = (tg3 0).map F := by
    rw [hF]
    exact blk3 (g := gOf D cA h0 v bM K V f b L xs) (i := 0) rfl rfl rfl rfl rfl rfl
  have a5 : lfA cA 4 its4 (vu v 5) (vq v 5) = (tg4 0).map F := by
    rw [hF]
    exact blk4 (g := gOf D cA h0 v bM K V f b L xs) (i := 0) rfl rfl rfl rfl rfl
  have a6 : lfA cA 0 its0 (vu v 6) (vq v 6) = (tg0 0).map F := by
    rw [hF]
    exact blk0 (g := gOf D cA h0 v bM K V f b L xs) (i := 0) rfl rfl
  have a7 : lfA cA 7 its7 (vu v 7) (vq v 7) = (tg7 0).map F := by
    rw [hF]
    exact blk7 (g := gOf D cA h0 v bM K V f b L xs) (i := 0) rfl rfl rfl rfl
  have a8 : lfA cA 6 its6 (vu v 8) (vq v 8) = (tg6 2).map F := by
    rw [hF]
    exact blk6 (g := gOf D cA h0 v bM K V f b L xs) (i := 2) rfl rfl rfl rfl rfl rfl rfl rfl rfl rfl rfl rfl rfl
  have a9 : lfA cA 6 its6 (vu v 9) (vq v 9) = (tg6 3).map F := by
    rw [hF]
    exact blk6 (g := gOf D cA h0 v bM K V f b L xs) (i := 3) rfl rfl rfl rfl rfl rfl rfl rfl rfl rfl rfl rfl rfl
  have a10 : lfA cA 6 its6 (vu v 10) (vq v 10) = (tg6 4).map F := by
    rw [hF]
    exact blk6 (g := gOf D cA h0 v bM K V f b L xs) (i := 4) rfl rfl rfl rfl rfl rfl rfl rfl rfl rfl rfl rfl rfl
  have a11 : lfA cA 6 its6 (vu v 11) (vq v 11) = (tg6 5).map F := by
    rw [hF]
    exact blk6 (g := gOf D cA h0 v bM K V f b L xs) (i := 5) rfl rfl rfl rfl rfl rfl rfl rfl rfl rfl rfl rfl rfl
  have a12 : lfA cA 1 its1 (vu v 12) (vq v 12) = (tg1 0).map F := by
    rw [hF]
    exact blk1 (g := gOf D cA h0 v bM K V f b L xs) (i := 0) rfl rfl rfl rfl rfl rfl rfl
  have a13 : lfA cA 1 its1 (vu v 13) (vq v 13) = (tg1 1).map F := by
    rw [hF]
    exact blk1 (g := gOf D cA h0 v bM K V f b L xs) (i := 1) rfl rfl rfl rfl rfl rfl rfl
  have a14 : lfA cA 1 its1 (vu v 14) (vq v 14) = (tg1 2).map F := by
    rw [hF]
    exact blk1 (g := gOf D cA h0 v bM K V f b L xs) (i := 2) rfl rfl rfl rfl rfl rfl rfl
  have a15 : lfA cA 1 its1 (vu v 15) (vq v 15) = (tg1 3).map F := by
    rw [hF]
    exact blk1 (g := gOf D cA h0 v bM K V f b L xs) (i := 3) rfl rfl rfl rfl rfl rfl rfl
  have a16 : lfA cA 1 its1 (vu v 16) (vq v 16) = (tg1 4).map F := by
    rw [hF]
    exact blk1 (g := gOf D cA h0 v bM K V f b L xs) (i := 4) rfl rfl rfl rfl rfl rfl rfl
  have a17 : lfA cA 1 its1 (vu v 17) (vq v 17) = (tg1 5).map F := by
    rw [hF]
    exact blk1 (g := gOf D cA h0 v bM K V f b L xs) (i := 5) rfl rfl rfl rfl rfl rfl rfl
  have aM : lfA cA 9 its9 bM.2 bM.1 = (tg9 0).map F := by
    rw [hF]
    exact blk9 (g := gOf D cA h0 v bM K V f b L xs) (i := 0) rfl rfl rfl rfl rfl rfl rfl rfl rfl rfl rfl rfl rfl rfl rfl rfl rfl rfl rfl rfl rfl rfl rfl rfl rfl rfl rfl rfl rfl rfl rfl rfl rfl rfl rfl rfl rfl rfl rfl rfl rfl rfl rfl rfl rfl rfl rfl rfl rfl
  have f0 : F (0, 0) = (h0, .inr (8, [.ref (vq v 0), .ref (vq v 1), .ref (vq v 18), .ref (vq v 19), .ref (vq v 20), .int 0, .ref (vq v 2), .ref (vq v 3), .ref (vq v 4), .ref (vq v 5), .ref (vq v 6), .ref (vq v 7), .int 0])) := by
    rw [hF]
    show (h0, (Sum.inr (8, List.mapIdx (fvc (gOf D cA h0 v bM K V f b L xs) (S0 xs L) 0 0) [(1, 1, 1), (1, 1, 2), (1, 14, 0), (1, 15, 0), (1, 16, 0), (0, 0, 0), (1, 24, 0), (1, 26, 0), (1, 30, 0), (1, 36, 0), (1, 41, 0), (1, 43, 0), (0, 0, 0)]) : va_E)) = _
    simp only [List.mapIdx_cons, List.mapIdx_nil]
    rfl
  have f14 : F (14, 0) = (vq v 18, .inl (cA 5, rfs 4 (fun j => some (vq v (8 + j))))) := by
    rw [hF]
    have e : (fun j => some (adr h0 v bM 1 (2 + j))) = (fun j => some (vq v (8 + j))) := by
      funext j
      rw [Nat.add_comm 2 j]
      rfl
    show (vq v 18, (Sum.inl (cA 5, rfs 4 (fun j => some (adr h0 v bM 1 (2 + j)))) : va_E)) = _
    rw [e]
  have f16 : F (16, 0) = (vq v 20, .inl (cA 6, rfs 6 (fun j => some (vq v (12 + j))))) := by
    rw [hF]
    have e : (fun j => some (adr h0 v bM 17 (0 + j))) = (fun j => some (vq v (12 + j))) := by
      funext j
      rw [Nat.zero_add]
      rfl
    show (vq v 20, (Sum.inl (cA 6, rfs 6 (fun j => some (adr h0 v bM 17 (0 + j)))) : va_E)) = _
    rw [e]
  have f15 : F (15, 0) = (vq v 19, .inl (cA 4, zr 4 4)) := by
    rw [hF]
    rfl
  simp only [lyC, oW, oTl, List.map_append, List.map_cons, List.map_nil, a0, a1, a2, a3, a4, a5, a6, a7, a8, a9, a10, a11, a12, a13, a14, a15, a16, a17, aM, f0, f14, f16, f15]
theorem inj_of {g : GE} {S : Sto} {A : Nat → Prop} (hD : va_D A (wsC g S)) : inj g := by
  intro p q hp hq e
  obtain ⟨i, hi⟩ := List.getElem?_of_mem hp
  obtain ⟨j, hj⟩ := List.getElem?_of_mem hq
  have h := hD.1 i j _ _ (wsC_at (t := p.1) (i := p.2) hi) (wsC_at (t := q.1) (i := q.2) hj) e
  subst h
  rw [hi] at hj
  exact Option.some.inj hj
