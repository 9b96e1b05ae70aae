/-! the first store, the addresses; what is made is the store's cells -/
def S0 (xs : Nat → Int32) (L : Nat) : Sto := (fun t _ k => bif Nat.beq t 50 then (bif Nat.beq k 26 then 11 else 0) else bif Nat.beq t 26 then (bif Nat.beq k 4 then -2 else bif Nat.beq k 5 then -2 else 0) else bif Nat.beq t 102 then xs k else bif Nat.beq t 103 then Int32.ofNat L else 0, fun _ _ _ => 0, none)
def ua : List Nat → Nat → Nat
  | u, 0 => u.headD 0
  | u, n + 1 => ua u.tail n
def bA (hd : Nat) (b : Nat × List Nat) (t : Nat) : Nat := bif Nat.beq t hd then b.1 else ua b.2 (t - hd - 1)
def vb (v : List (Nat × List Nat)) (k : Nat) : Nat × List Nat := v.getD k (0, [])
def tnI (i : Nat) : Nat := match i with
  | 0 => 0
  | 1 => 1
  | j + 2 => 8 + j
def adr (h0 : Nat) (v : List (Nat × List Nat)) (bM : Nat × List Nat) (t i : Nat) : Nat := bif Nat.blt t 1 then h0 else bif Nat.blt t 14 then bA 1 (vb v (tnI i)) t else bif Nat.blt t 15 then vq v 18 else bif Nat.blt t 16 then vq v 19 else bif Nat.blt t 17 then vq v 20 else bif Nat.blt t 24 then bA 17 (vb v (12 + i)) t else bif Nat.blt t 26 then bA 24 (vb v 2) t else bif Nat.blt t 30 then bA 26 (vb v 3) t else bif Nat.blt t 36 then bA 30 (vb v 4) t else bif Nat.blt t 41 then bA 36 (vb v 5) t else bif Nat.blt t 43 then bA 41 (vb v 6) t else bif Nat.blt t 50 then bA 43 (vb v 7) t else bA 50 bM t
def tg6 (i : Nat) : List (Nat × Nat) := [(1, i), (2, i), (3, i), (4, i), (5, i), (6, i), (7, i), (8, i), (9, i), (10, i), (11, i), (12, i), (13, i)]
set_option maxRecDepth 100000 in
set_option maxHeartbeats 4000000 in
theorem blk6 {g : GE} {xs : Nat → Int32} {L i q : Nat} {u : List Nat} (e1 : g_a g 1 i = q) (e2 : g_a g 2 i = ua u 0) (e3 : g_a g 3 i = ua u 1) (e4 : g_a g 4 i = ua u 2) (e5 : g_a g 5 i = ua u 3) (e6 : g_a g 6 i = ua u 4) (e7 : g_a g 7 i = ua u 5) (e8 : g_a g 8 i = ua u 6) (e9 : g_a g 9 i = ua u 7) (e10 : g_a g 10 i = ua u 8) (e11 : g_a g 11 i = ua u 9) (e12 : g_a g 12 i = ua u 10) (e13 : g_a g 13 i = ua u 11) : lfA (g_A g) 6 its6 u q = (tg6 i).map (fun z => (g_a g z.1 z.2, cel g (S0 xs L) z.1 z.2)) := by
  have c1 : cel g (S0 xs L) 1 i = .inr (6, [.int 0, .int 0, .ref (g_a g 2 i), .ref (g_a g 3 i), .ref (g_a g 4 i), .ref (g_a g 5 i), .ref (g_a g 6 i), .int 0, .ref (g_a g 7 i), .ref (g_a g 8 i), .int 0, .int 0, .ref (g_a g 9 i), .ref (g_a g 10 i), .ref (g_a g 11 i), .ref (g_a g 12 i), .int 0, .ref (g_a g 13 i), .int 0, .int 0]) := by
    show (Sum.inr (6, List.mapIdx (fvc g (S0 xs L) 1 i) [(0, 0, 0), (0, 0, 0), (1, 2, 0), (1, 3, 0), (1, 4, 0), (1, 5, 0), (1, 6, 0), (0, 0, 0), (1, 7, 0), (1, 8, 0), (0, 0, 0), (0, 0, 0), (1, 9, 0), (1, 10, 0), (1, 11, 0), (1, 12, 0), (0, 0, 0), (1, 13, 0), (0, 0, 0), (0, 0, 0)]) : va_E) = _
    simp only [List.mapIdx_cons, List.mapIdx_nil]
    rfl
  simp only [tg6, List.map_cons, List.map_nil, c1, e1, e2, e3, e4, e5, e6, e7, e8, e9, e10, e11, e12, e13]
  rfl
def tg1 (i : Nat) : List (Nat × Nat) := [(17, i), (18, i), (19, i), (20, i), (21, i), (22, i), (23, i)]
set_option maxRecDepth 100000 in
set_option maxHeartbeats 4000000 in
theorem blk1 {g : GE} {xs : Nat → Int32} {L i q : Nat} {u : List Nat} (e17 : g_a g 17 i = q) (e18 : g_a g 18 i = ua u 0) (e19 : g_a g 19 i = ua u 1) (e20 : g_a g 20 i = ua u 2) (e21 : g_a g 21 i = ua u 3) (e22 : g_a g 22 i = ua u 4) (e23 : g_a g 23 i = ua u 5) : lfA (g_A g) 1 its1 u q = (tg1 i).map (fun z => (g_a g z.1 z.2, cel g (S0 xs L) z.1 z.2)) := by
  have c1 : cel g (S0 xs L) 17 i = .inr (1, [.int 0, .int 0, .ref (g_a g 18 i), .ref (g_a g 19 i), .ref (g_a g 20 i), .ref (g_a g 21 i), .ref (g_a g 22 i), .ref (g_a g 23 i)]) := by
    show (Sum.inr (1, List.mapIdx (fvc g (S0 xs L) 17 i) [(0, 0, 0), (0, 0, 0), (1, 18, 0), (1, 19, 0), (1, 20, 0), (1, 21, 0), (1, 22, 0), (1, 23, 0)]) : va_E) = _
    simp only [List.mapIdx_cons, List.mapIdx_nil]
    rfl
  simp only [tg1, List.map_cons, List.map_nil, c1, e17, e18, e19, e20, e21, e22, e23]
  rfl
def tg5 (i : Nat) : List (Nat × Nat) := [(24, i), (25, i)]
set_option maxRecDepth 100000 in
set_option maxHeartbeats 4000000 in
theorem blk5 {g : GE} {xs : Nat → Int32} {L i q : Nat} {u : List Nat} (e24 : g_a g 24 i = q) (e25 : g_a g 25 i = ua u 0) : lfA (g_A g) 5 its5 u q = (tg5 i).map (fun z => (g_a g z.1 z.2, cel g (S0 xs L) z.1 z.2)) := by
  have c1 : cel g (S0 xs L) 24 i = .inr (5, [.ref (g_a g 25 i), .int 0, .int 0, .int 0, .int 0, .int 0, .null]) := by
    show (Sum.inr (5, List.mapIdx (fvc g (S0 xs L) 24 i) [(1, 25, 0), (0, 0, 0), (0, 0, 0), (0, 0, 0), (0, 0, 0), (0, 0, 0), (2, 17, 0)]) : va_E) = _
    simp only [List.mapIdx_cons, List.mapIdx_nil]
    rfl
  simp only [tg5, List.map_cons, List.map_nil, c1, e24, e25]
  rfl
def tg2 (i : Nat) : List (Nat × Nat) := [(26, i), (27, i), (28, i), (29, i)]
set_option maxRecDepth 100000 in
set_option maxHeartbeats 4000000 in
theorem blk2 {g : GE} {xs : Nat → Int32} {L i q : Nat} {u : List Nat} (e26 : g_a g 26 i = q) (e27 : g_a g 27 i = ua u 0) (e28 : g_a g 28 i = ua u 1) (e29 : g_a g 29 i = ua u 2) : lfA (g_A g) 2 its2 u q = (tg2 i).map (fun z => (g_a g z.1 z.2, cel g (S0 xs L) z.1 z.2)) := by
  have c1 : cel g (S0 xs L) 26 i = .inr (2, [.ref (g_a g 27 i), .ref (g_a g 28 i), .ref (g_a g 29 i), .int 0, .int (-2), .int (-2)]) := by
    show (Sum.inr (2, List.mapIdx (fvc g (S0 xs L) 26 i) [(1, 27, 0), (1, 28, 0), (1, 29, 0), (0, 0, 0), (0, 0, 0), (0, 0, 0)]) : va_E) = _
    simp only [List.mapIdx_cons, List.mapIdx_nil]
    rfl
  simp only [tg2, List.map_cons, List.map_nil, c1, e26, e27, e28, e29]
  rfl
def tg3 (i : Nat) : List (Nat × Nat) := [(30, i), (31, i), (32, i), (33, i), (34, i), (35, i)]
set_option maxRecDepth 100000 in
set_option maxHeartbeats 4000000 in
theorem blk3 {g : GE} {xs : Nat → Int32} {L i q : Nat} {u : List Nat} (e30 : g_a g 30 i = q) (e31 : g_a g 31 i = ua u 0) (e32 : g_a g 32 i = ua u 1) (e33 : g_a g 33 i = ua u 2) (e34 : g_a g 34 i = ua u 3) (e35 : g_a g 35 i = ua u 4) : lfA (g_A g) 3 its3 u q = (tg3 i).map (fun z => (g_a g z.1 z.2, cel g (S0 xs L) z.1 z.2)) := by
  have c1 : cel g (S0 xs L) 30 i = .inr (3, [.ref (g_a g 31 i), .ref (g_a g 32 i), .ref (g_a g 33 i), .ref (g_a g 34 i), .ref (g_a g 35 i)]) := by
    show (Sum.inr (3, List.mapIdx (fvc g (S0 xs L) 30 i) [(1, 31, 0), (1, 32, 0), (1, 33, 0), (1, 34, 0), (1, 35, 0)]) : va_E) = _
    simp only [List.mapIdx_cons, List.mapIdx_nil]
    rfl
  simp only [tg3, List.map_cons, List.map_nil, c1, e30, e31, e32, e33, e34, e35]
  rfl
def tg4 (i : Nat) : List (Nat × Nat) := [(36, i), (37, i), (38, i), (39, i), (40, i)]
set_option maxRecDepth 100000 in
set_option maxHeartbeats 4000000 in
theorem blk4 {g : GE} {xs : Nat → Int32} {L i q : Nat} {u : List Nat} (e36 : g_a g 36 i = q) (e37 : g_a g 37 i = ua u 0) (e38 : g_a g 38 i = ua u 1) (e39 : g_a g 39 i = ua u 2) (e40 : g_a g 40 i = ua u 3) : lfA (g_A g) 4 its4 u q = (tg4 i).map (fun z => (g_a g z.1 z.2, cel g (S0 xs L) z.1 z.2)) := by
  have c1 : cel g (S0 xs L) 36 i = .inr (4, [.ref (g_a g 37 i), .ref (g_a g 38 i), .ref (g_a g 39 i), .ref (g_a g 40 i)]) := by
    show (Sum.inr (4, List.mapIdx (fvc g (S0 xs L) 36 i) [(1, 37, 0), (1, 38, 0), (1, 39, 0), (1, 40, 0)]) : va_E) = _
    simp only [List.mapIdx_cons, List.mapIdx_nil]
    rfl
  simp only [tg4, List.map_cons, List.map_nil, c1, e36, e37, e38, e39, e40]
  rfl
def tg0 (i : Nat) : List (Nat × Nat) := [(41, i), (42, i)]
set_option maxRecDepth 100000 in
set_option maxHeartbeats 4000000 in
theorem blk0 {g : GE} {xs : Nat → Int32} {L i q : Nat} {u : List Nat} (e41 : g_a g 41 i = q) (e42 : g_a g 42 i = ua u 0) : lfA (g_A g) 0 its0 u q = (tg0 i).map (fun z => (g_a g z.1 z.2, cel g (S0 xs L) z.1 z.2)) := by
  have c1 : cel g (S0 xs L) 41 i = .inr (0, [.ref (g_a g 42 i), .int 0]) := by
    show (Sum.inr (0, List.mapIdx (fvc g (S0 xs L) 41 i) [(1, 42, 0), (0, 0, 0)]) : va_E) = _
    simp only [List.mapIdx_cons, List.mapIdx_nil]
    rfl
  simp only [tg0, List.map_cons, List.map_nil, c1, e41, e42]
  rfl
def tg7 (i : Nat) : List (Nat × Nat) := [(43, i), (44, i), (45, i), (46, i)]
set_option maxRecDepth 100000 in
set_option maxHeartbeats 4000000 in
theorem blk7 {g : GE} {xs : Nat → Int32} {L i q : Nat} {u : List Nat} (e43 : g_a g 43 i = q) (e44 : g_a g 44 i = ua u 0) (e45 : g_a g 45 i = ua u 1) (e46 : g_a g 46 i = ua u 2) : lfA (g_A g) 7 its7 u q = (tg7 i).map (fun z => (g_a g z.1 z.2, cel g (S0 xs L) z.1 z.2)) := by
  have c1 : cel g (S0 xs L) 43 i = .inr (7, [.ref (g_a g 44 i), .ref (g_a g 45 i), .ref (g_a g 46 i)]) := by
    show (Sum.inr (7, List.mapIdx (fvc g (S0 xs L) 43 i) [(1, 44, 0), (1, 45, 0), (1, 46, 0)]) : va_E) = _
    simp only [List.mapIdx_cons, List.mapIdx_nil]
    rfl
  simp only [tg7, List.map_cons, List.map_nil, c1, e43, e44, e45, e46]
  rfl
