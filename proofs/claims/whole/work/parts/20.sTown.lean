/-! 68 Town_areTwo -/
theorem s68_0 {j : Nat} {a0 : av} {a2 : av} {st : List av} (x : Int32) (S : Sto) : run 68 j 0 [a0, vI x, a2] st S = run 68 j 1 [a0, vI x, a2] (vI x :: st) S := st_ rfl
theorem s68_1 {j : Nat} {a0 : av} {a1 : av} {st : List av} (x : Int32) (S : Sto) : run 68 j 1 [a0, a1, vI x] st S = run 68 j 2 [a0, a1, vI x] (vI x :: st) S := st_ rfl
theorem s68_2 {j : Nat} {a0 : av} {a1 : av} {a2 : av} {st : List av} (x y : Int32) (S : Sto) : run 68 j 2 [a0, a1, a2] (vI y :: vI x :: st) S = if x = y then run 68 j 25 [a0, a1, a2] st S else run 68 j 5 [a0, a1, a2] st S := st_ite rfl
theorem s68_5 {j : Nat} {a1 : av} {a2 : av} {st : List av} (q : Nat) (S : Sto) : run 68 j 5 [vR 1 q, a1, a2] st S = run 68 j 6 [vR 1 q, a1, a2] (vR 1 q :: st) S := st_ rfl
theorem s68_6 {j : Nat} {a0 : av} {a2 : av} {st : List av} (x : Int32) (S : Sto) : run 68 j 6 [a0, vI x, a2] st S = run 68 j 7 [a0, vI x, a2] (vI x :: st) S := st_ rfl
theorem s68_7 {j : Nat} {a0 : av} {a1 : av} {a2 : av} (x0 : Int32) (x1 : Nat) (S : Sto) : run 68 j 7 [a0, a1, a2] [vI x0, vR 1 x1] S = bV (call 69 0 [vR 1 x1, vI x0] S) (fun v S' => run 68 j 10 [a0, a1, a2] (v :: []) S') := st_cV rfl
theorem s68_10 {j : Nat} {a0 : av} {a1 : av} {a2 : av} {st : List av} (x : Int32) (S : Sto) : run 68 j 10 [a0, a1, a2] (vI x :: st) S = if x = 0 then run 68 j 25 [a0, a1, a2] st S else run 68 j 13 [a0, a1, a2] st S := st_ite rfl
theorem s68_13 {j : Nat} {a1 : av} {a2 : av} {st : List av} (q : Nat) (S : Sto) : run 68 j 13 [vR 1 q, a1, a2] st S = run 68 j 14 [vR 1 q, a1, a2] (vR 1 q :: st) S := st_ rfl
theorem s68_14 {j : Nat} {a0 : av} {a1 : av} {st : List av} (x : Int32) (S : Sto) : run 68 j 14 [a0, a1, vI x] st S = run 68 j 15 [a0, a1, vI x] (vI x :: st) S := st_ rfl
theorem s68_15 {j : Nat} {a0 : av} {a1 : av} {a2 : av} (x0 : Int32) (x1 : Nat) (S : Sto) : run 68 j 15 [a0, a1, a2] [vI x0, vR 1 x1] S = bV (call 69 0 [vR 1 x1, vI x0] S) (fun v S' => run 68 j 18 [a0, a1, a2] (v :: []) S') := st_cV rfl
theorem s68_18 {j : Nat} {a0 : av} {a1 : av} {a2 : av} {st : List av} (x : Int32) (S : Sto) : run 68 j 18 [a0, a1, a2] (vI x :: st) S = if x = 0 then run 68 j 25 [a0, a1, a2] st S else run 68 j 21 [a0, a1, a2] st S := st_ite rfl
theorem s68_21 {j : Nat} {a0 : av} {a1 : av} {a2 : av} {st : List av} (S : Sto) : run 68 j 21 [a0, a1, a2] st S = run 68 j 22 [a0, a1, a2] (vI 1 :: st) S := st_ rfl
theorem s68_22 {j : Nat} {a0 : av} {a1 : av} {a2 : av} {st : List av} (S : Sto) : run 68 j 22 [a0, a1, a2] st S = run 68 j 26 [a0, a1, a2] st S := st_ rfl
theorem s68_25 {j : Nat} {a0 : av} {a1 : av} {a2 : av} {st : List av} (S : Sto) : run 68 j 25 [a0, a1, a2] st S = run 68 j 26 [a0, a1, a2] (vI 0 :: st) S := st_ rfl
theorem s68_26 {j : Nat} {a0 : av} {a1 : av} {a2 : av} (x : Int32) (S : Sto) : run 68 j 26 [a0, a1, a2] [vI x] S = if vp_nar .boolean x = x then some (some (vI x), S) else none := st_rb rfl
/-! 69 Town_isPerson -/
theorem s69_0 {j : Nat} {a0 : av} {st : List av} (x : Int32) (S : Sto) : run 69 j 0 [a0, vI x] st S = run 69 j 1 [a0, vI x] (vI x :: st) S := st_ rfl
theorem s69_1 {j : Nat} {a0 : av} {a1 : av} {st : List av} (x : Int32) (S : Sto) : run 69 j 1 [a0, a1] (vI x :: st) S = if x < 0 then run 69 j 16 [a0, a1] st S else run 69 j 4 [a0, a1] st S := st_ite rfl
theorem s69_4 {j : Nat} {a0 : av} {st : List av} (x : Int32) (S : Sto) : run 69 j 4 [a0, vI x] st S = run 69 j 5 [a0, vI x] (vI x :: st) S := st_ rfl
theorem s69_5 {j : Nat} {a1 : av} {st : List av} (q : Nat) (S : Sto) : run 69 j 5 [vR 1 q, a1] st S = run 69 j 6 [vR 1 q, a1] (vR 1 q :: st) S := st_ rfl
theorem s69_6 {j : Nat} {a0 : av} {a1 : av} {st : List av} (q : Nat) (S : Sto) : run 69 j 6 [a0, a1] (vR 1 q :: st) S = run 69 j 9 [a0, a1] (vI (S.1 1 q 0) :: st) S := st_ rfl
theorem s69_9 {j : Nat} {a0 : av} {a1 : av} {st : List av} (x y : Int32) (S : Sto) : run 69 j 9 [a0, a1] (vI y :: vI x :: st) S = if y ≤ x then run 69 j 16 [a0, a1] st S else run 69 j 12 [a0, a1] st S := st_ite rfl
theorem s69_12 {j : Nat} {a0 : av} {a1 : av} {st : List av} (S : Sto) : run 69 j 12 [a0, a1] st S = run 69 j 13 [a0, a1] (vI 1 :: st) S := st_ rfl
theorem s69_13 {j : Nat} {a0 : av} {a1 : av} {st : List av} (S : Sto) : run 69 j 13 [a0, a1] st S = run 69 j 17 [a0, a1] st S := st_ rfl
theorem s69_16 {j : Nat} {a0 : av} {a1 : av} {st : List av} (S : Sto) : run 69 j 16 [a0, a1] st S = run 69 j 17 [a0, a1] (vI 0 :: st) S := st_ rfl
theorem s69_17 {j : Nat} {a0 : av} {a1 : av} (x : Int32) (S : Sto) : run 69 j 17 [a0, a1] [vI x] S = if vp_nar .boolean x = x then some (some (vI x), S) else none := st_rb rfl
/-! 70 Town_isAlive -/
theorem s70_0 {j : Nat} {a0 : av} {st : List av} (x : Int32) (S : Sto) : run 70 j 0 [a0, vI x] st S = run 70 j 1 [a0, vI x] (vI x :: st) S := st_ rfl
theorem s70_1 {j : Nat} {a0 : av} {a1 : av} {st : List av} (x : Int32) (S : Sto) : run 70 j 1 [a0, a1] (vI x :: st) S = if x < 0 then run 70 j 27 [a0, a1] st S else run 70 j 4 [a0, a1] st S := st_ite rfl
theorem s70_4 {j : Nat} {a0 : av} {st : List av} (x : Int32) (S : Sto) : run 70 j 4 [a0, vI x] st S = run 70 j 5 [a0, vI x] (vI x :: st) S := st_ rfl
theorem s70_5 {j : Nat} {a1 : av} {st : List av} (q : Nat) (S : Sto) : run 70 j 5 [vR 1 q, a1] st S = run 70 j 6 [vR 1 q, a1] (vR 1 q :: st) S := st_ rfl
theorem s70_6 {j : Nat} {a0 : av} {a1 : av} {st : List av} (q : Nat) (S : Sto) : run 70 j 6 [a0, a1] (vR 1 q :: st) S = run 70 j 9 [a0, a1] (vI (S.1 1 q 0) :: st) S := st_ rfl
theorem s70_9 {j : Nat} {a0 : av} {a1 : av} {st : List av} (x y : Int32) (S : Sto) : run 70 j 9 [a0, a1] (vI y :: vI x :: st) S = if y ≤ x then run 70 j 27 [a0, a1] st S else run 70 j 12 [a0, a1] st S := st_ite rfl
theorem s70_12 {j : Nat} {a1 : av} {st : List av} (q : Nat) (S : Sto) : run 70 j 12 [vR 1 q, a1] st S = run 70 j 13 [vR 1 q, a1] (vR 1 q :: st) S := st_ rfl
theorem s70_13 {j : Nat} {a0 : av} {a1 : av} {st : List av} (q : Nat) (S : Sto) : run 70 j 13 [a0, a1] (vR 1 q :: st) S = run 70 j 16 [a0, a1] (vI (S.1 1 q 1) :: st) S := st_ rfl
theorem s70_16 {j : Nat} {a0 : av} {st : List av} (x : Int32) (S : Sto) : run 70 j 16 [a0, vI x] st S = run 70 j 17 [a0, vI x] (vI x :: st) S := st_ rfl
theorem s70_17 {j : Nat} {a0 : av} {a1 : av} (x0 : Int32) (x1 : Int32) (S : Sto) : run 70 j 17 [a0, a1] [vI x0, vI x1] S = bV (call 96 0 [vI x1, vI x0] S) (fun v S' => run 70 j 20 [a0, a1] (v :: []) S') := st_cV rfl
theorem s70_20 {j : Nat} {a0 : av} {a1 : av} {st : List av} (x : Int32) (S : Sto) : run 70 j 20 [a0, a1] (vI x :: st) S = if x = 0 then run 70 j 27 [a0, a1] st S else run 70 j 23 [a0, a1] st S := st_ite rfl
theorem s70_23 {j : Nat} {a0 : av} {a1 : av} {st : List av} (S : Sto) : run 70 j 23 [a0, a1] st S = run 70 j 24 [a0, a1] (vI 1 :: st) S := st_ rfl
theorem s70_24 {j : Nat} {a0 : av} {a1 : av} {st : List av} (S : Sto) : run 70 j 24 [a0, a1] st S = run 70 j 28 [a0, a1] st S := st_ rfl
theorem s70_27 {j : Nat} {a0 : av} {a1 : av} {st : List av} (S : Sto) : run 70 j 27 [a0, a1] st S = run 70 j 28 [a0, a1] (vI 0 :: st) S := st_ rfl
theorem s70_28 {j : Nat} {a0 : av} {a1 : av} (x : Int32) (S : Sto) : run 70 j 28 [a0, a1] [vI x] S = if vp_nar .boolean x = x then some (some (vI x), S) else none := st_rb rfl
/-! 71 Town_atOdds -/
theorem s71_0 {j : Nat} {a1 : av} {a2 : av} {st : List av} (q : Nat) (S : Sto) : run 71 j 0 [vR 1 q, a1, a2] st S = run 71 j 1 [vR 1 q, a1, a2] (vR 1 q :: st) S := st_ rfl
theorem s71_1 {j : Nat} {a0 : av} {a1 : av} {a2 : av} {st : List av} (q : Nat) (S : Sto) : run 71 j 1 [a0, a1, a2] (vR 1 q :: st) S = run 71 j 4 [a0, a1, a2] (vR 4 q :: st) S := st_ rfl
theorem s71_4 {j : Nat} {a0 : av} {a2 : av} {st : List av} (x : Int32) (S : Sto) : run 71 j 4 [a0, vI x, a2] st S = run 71 j 5 [a0, vI x, a2] (vI x :: st) S := st_ rfl
theorem s71_5 {j : Nat} {a0 : av} {a1 : av} {a2 : av} {st : List av} (x : Int32) (q : Nat) (S : Sto) : run 71 j 5 [a0, a1, a2] (vI x :: vR 4 q :: st) S = if ib x 12 then run 71 j 6 [a0, a1, a2] (vI (S.1 4 q x.toNatClampNeg) :: st) S else none := st_itN rfl
theorem s71_6 {j : Nat} {a0 : av} {a1 : av} {st : List av} (x : Int32) (S : Sto) : run 71 j 6 [a0, a1, vI x] st S = run 71 j 7 [a0, a1, vI x] (vI x :: st) S := st_ rfl
theorem s71_7 {j : Nat} {a0 : av} {a1 : av} {a2 : av} (x0 : Int32) (x1 : Int32) (S : Sto) : run 71 j 7 [a0, a1, a2] [vI x0, vI x1] S = bV (call 96 0 [vI x1, vI x0] S) (fun v S' => run 71 j 10 [a0, a1, a2] (v :: []) S') := st_cV rfl
theorem s71_10 {j : Nat} {a0 : av} {a1 : av} {a2 : av} (x : Int32) (S : Sto) : run 71 j 10 [a0, a1, a2] [vI x] S = if vp_nar .boolean x = x then some (some (vI x), S) else none := st_rb rfl
/-! 72 Town_setOdds -/
theorem s72_0 {j : Nat} {a0 : av} {a1 : av} {a2 : av} {st : List av} (x : Int32) (S : Sto) : run 72 j 0 [a0, a1, a2, vI x] st S = run 72 j 1 [a0, a1, a2, vI x] (vI x :: st) S := st_ rfl
theorem s72_1 {j : Nat} {a0 : av} {a1 : av} {a2 : av} {a3 : av} {st : List av} (x : Int32) (S : Sto) : run 72 j 1 [a0, a1, a2, a3] (vI x :: st) S = if x = 0 then run 72 j 31 [a0, a1, a2, a3] st S else run 72 j 4 [a0, a1, a2, a3] st S := st_ite rfl
theorem s72_4 {j : Nat} {a1 : av} {a2 : av} {a3 : av} {st : List av} (q : Nat) (S : Sto) : run 72 j 4 [vR 1 q, a1, a2, a3] st S = run 72 j 5 [vR 1 q, a1, a2, a3] (vR 1 q :: st) S := st_ rfl
theorem s72_5 {j : Nat} {a0 : av} {a1 : av} {a2 : av} {a3 : av} {st : List av} (q : Nat) (S : Sto) : run 72 j 5 [a0, a1, a2, a3] (vR 1 q :: st) S = run 72 j 8 [a0, a1, a2, a3] (vR 4 q :: st) S := st_ rfl
theorem s72_8 {j : Nat} {a0 : av} {a2 : av} {a3 : av} {st : List av} (x : Int32) (S : Sto) : run 72 j 8 [a0, vI x, a2, a3] st S = run 72 j 9 [a0, vI x, a2, a3] (vI x :: st) S := st_ rfl
theorem s72_9 {j : Nat} {a0 : av} {a1 : av} {a2 : av} {a3 : av} {st : List av} (x : Int32) (y : Nat) (S : Sto) : run 72 j 9 [a0, a1, a2, a3] (vI x :: vR 4 y :: st) S = run 72 j 10 [a0, a1, a2, a3] (vI x :: vR 4 y :: vI x :: vR 4 y :: st) S := st_ rfl
theorem s72_10 {j : Nat} {a0 : av} {a1 : av} {a2 : av} {a3 : av} {st : List av} (x : Int32) (q : Nat) (S : Sto) : run 72 j 10 [a0, a1, a2, a3] (vI x :: vR 4 q :: st) S = if ib x 12 then run 72 j 11 [a0, a1, a2, a3] (vI (S.1 4 q x.toNatClampNeg) :: st) S else none := st_itN rfl
theorem s72_11 {j : Nat} {a0 : av} {a1 : av} {a2 : av} {a3 : av} {st : List av} (S : Sto) : run 72 j 11 [a0, a1, a2, a3] st S = run 72 j 12 [a0, a1, a2, a3] (vI 1 :: st) S := st_ rfl
theorem s72_12 {j : Nat} {a0 : av} {a1 : av} {a3 : av} {st : List av} (x : Int32) (S : Sto) : run 72 j 12 [a0, a1, vI x, a3] st S = run 72 j 13 [a0, a1, vI x, a3] (vI x :: st) S := st_ rfl
theorem s72_13 {j : Nat} {a0 : av} {a1 : av} {a2 : av} {a3 : av} {st : List av} (x y : Int32) (S : Sto) : run 72 j 13 [a0, a1, a2, a3] (vI y :: vI x :: st) S = run 72 j 14 [a0, a1, a2, a3] (vI (x <<< (y &&& 31)) :: st) S := st_ rfl
theorem s72_14 {j : Nat} {a0 : av} {a1 : av} {a2 : av} {a3 : av} {st : List av} (x y : Int32) (S : Sto) : run 72 j 14 [a0, a1, a2, a3] (vI y :: vI x :: st) S = run 72 j 15 [a0, a1, a2, a3] (vI (x ||| y) :: st) S := st_ rfl
theorem s72_15 {j : Nat} {a0 : av} {a1 : av} {a2 : av} {a3 : av} {st : List av} (v : Int32) (x : Int32) (q : Nat) (S : Sto) : run 72 j 15 [a0, a1, a2, a3] (vI v :: vI x :: vR 4 q :: st) S = if ib x 12 then run 72 j 16 [a0, a1, a2, a3] st (uI S 4 q x.toNatClampNeg v) else none := st_itN rfl
theorem s72_16 {j : Nat} {a1 : av} {a2 : av} {a3 : av} {st : List av} (q : Nat) (S : Sto) : run 72 j 16 [vR 1 q, a1, a2, a3] st S = run 72 j 17 [vR 1 q, a1, a2, a3] (vR 1 q :: st) S := st_ rfl
theorem s72_17 {j : Nat} {a0 : av} {a1 : av} {a2 : av} {a3 : av} {st : List av} (q : Nat) (S : Sto) : run 72 j 17 [a0, a1, a2, a3] (vR 1 q :: st) S = run 72 j 20 [a0, a1, a2, a3] (vR 4 q :: st) S := st_ rfl
theorem s72_20 {j : Nat} {a0 : av} {a1 : av} {a3 : av} {st : List av} (x : Int32) (S : Sto) : run 72 j 20 [a0, a1, vI x, a3] st S = run 72 j 21 [a0, a1, vI x, a3] (vI x :: st) S := st_ rfl
theorem s72_21 {j : Nat} {a0 : av} {a1 : av} {a2 : av} {a3 : av} {st : List av} (x : Int32) (y : Nat) (S : Sto) : run 72 j 21 [a0, a1, a2, a3] (vI x :: vR 4 y :: st) S = run 72 j 22 [a0, a1, a2, a3] (vI x :: vR 4 y :: vI x :: vR 4 y :: st) S := st_ rfl
theorem s72_22 {j : Nat} {a0 : av} {a1 : av} {a2 : av} {a3 : av} {st : List av} (x : Int32) (q : Nat) (S : Sto) : run 72 j 22 [a0, a1, a2, a3] (vI x :: vR 4 q :: st) S = if ib x 12 then run 72 j 23 [a0, a1, a2, a3] (vI (S.1 4 q x.toNatClampNeg) :: st) S else none := st_itN rfl
theorem s72_23 {j : Nat} {a0 : av} {a1 : av} {a2 : av} {a3 : av} {st : List av} (S : Sto) : run 72 j 23 [a0, a1, a2, a3] st S = run 72 j 24 [a0, a1, a2, a3] (vI 1 :: st) S := st_ rfl
theorem s72_24 {j : Nat} {a0 : av} {a2 : av} {a3 : av} {st : List av} (x : Int32) (S : Sto) : run 72 j 24 [a0, vI x, a2, a3] st S = run 72 j 25 [a0, vI x, a2, a3] (vI x :: st) S := st_ rfl
theorem s72_25 {j : Nat} {a0 : av} {a1 : av} {a2 : av} {a3 : av} {st : List av} (x y : Int32) (S : Sto) : run 72 j 25 [a0, a1, a2, a3] (vI y :: vI x :: st) S = run 72 j 26 [a0, a1, a2, a3] (vI (x <<< (y &&& 31)) :: st) S := st_ rfl
theorem s72_26 {j : Nat} {a0 : av} {a1 : av} {a2 : av} {a3 : av} {st : List av} (x y : Int32) (S : Sto) : run 72 j 26 [a0, a1, a2, a3] (vI y :: vI x :: st) S = run 72 j 27 [a0, a1, a2, a3] (vI (x ||| y) :: st) S := st_ rfl
theorem s72_27 {j : Nat} {a0 : av} {a1 : av} {a2 : av} {a3 : av} {st : List av} (v : Int32) (x : Int32) (q : Nat) (S : Sto) : run 72 j 27 [a0, a1, a2, a3] (vI v :: vI x :: vR 4 q :: st) S = if ib x 12 then run 72 j 28 [a0, a1, a2, a3] st (uI S 4 q x.toNatClampNeg v) else none := st_itN rfl
theorem s72_28 {j : Nat} {a0 : av} {a1 : av} {a2 : av} {a3 : av} {st : List av} (S : Sto) : run 72 j 28 [a0, a1, a2, a3] st S = run 72 j 59 [a0, a1, a2, a3] st S := st_ rfl
theorem s72_31 {j : Nat} {a1 : av} {a2 : av} {a3 : av} {st : List av} (q : Nat) (S : Sto) : run 72 j 31 [vR 1 q, a1, a2, a3] st S = run 72 j 32 [vR 1 q, a1, a2, a3] (vR 1 q :: st) S := st_ rfl
theorem s72_32 {j : Nat} {a0 : av} {a1 : av} {a2 : av} {a3 : av} {st : List av} (q : Nat) (S : Sto) : run 72 j 32 [a0, a1, a2, a3] (vR 1 q :: st) S = run 72 j 35 [a0, a1, a2, a3] (vR 4 q :: st) S := st_ rfl
theorem s72_35 {j : Nat} {a0 : av} {a2 : av} {a3 : av} {st : List av} (x : Int32) (S : Sto) : run 72 j 35 [a0, vI x, a2, a3] st S = run 72 j 36 [a0, vI x, a2, a3] (vI x :: st) S := st_ rfl
theorem s72_36 {j : Nat} {a0 : av} {a1 : av} {a2 : av} {a3 : av} {st : List av} (x : Int32) (y : Nat) (S : Sto) : run 72 j 36 [a0, a1, a2, a3] (vI x :: vR 4 y :: st) S = run 72 j 37 [a0, a1, a2, a3] (vI x :: vR 4 y :: vI x :: vR 4 y :: st) S := st_ rfl
theorem s72_37 {j : Nat} {a0 : av} {a1 : av} {a2 : av} {a3 : av} {st : List av} (x : Int32) (q : Nat) (S : Sto) : run 72 j 37 [a0, a1, a2, a3] (vI x :: vR 4 q :: st) S = if ib x 12 then run 72 j 38 [a0, a1, a2, a3] (vI (S.1 4 q x.toNatClampNeg) :: st) S else none := st_itN rfl
theorem s72_38 {j : Nat} {a0 : av} {a1 : av} {a2 : av} {a3 : av} {st : List av} (S : Sto) : run 72 j 38 [a0, a1, a2, a3] st S = run 72 j 39 [a0, a1, a2, a3] (vI 1 :: st) S := st_ rfl
theorem s72_39 {j : Nat} {a0 : av} {a1 : av} {a3 : av} {st : List av} (x : Int32) (S : Sto) : run 72 j 39 [a0, a1, vI x, a3] st S = run 72 j 40 [a0, a1, vI x, a3] (vI x :: st) S := st_ rfl
theorem s72_40 {j : Nat} {a0 : av} {a1 : av} {a2 : av} {a3 : av} {st : List av} (x y : Int32) (S : Sto) : run 72 j 40 [a0, a1, a2, a3] (vI y :: vI x :: st) S = run 72 j 41 [a0, a1, a2, a3] (vI (x <<< (y &&& 31)) :: st) S := st_ rfl
theorem s72_41 {j : Nat} {a0 : av} {a1 : av} {a2 : av} {a3 : av} {st : List av} (S : Sto) : run 72 j 41 [a0, a1, a2, a3] st S = run 72 j 42 [a0, a1, a2, a3] (vI (-1) :: st) S := st_ rfl
theorem s72_42 {j : Nat} {a0 : av} {a1 : av} {a2 : av} {a3 : av} {st : List av} (x y : Int32) (S : Sto) : run 72 j 42 [a0, a1, a2, a3] (vI y :: vI x :: st) S = run 72 j 43 [a0, a1, a2, a3] (vI (x ^^^ y) :: st) S := st_ rfl
theorem s72_43 {j : Nat} {a0 : av} {a1 : av} {a2 : av} {a3 : av} {st : List av} (x y : Int32) (S : Sto) : run 72 j 43 [a0, a1, a2, a3] (vI y :: vI x :: st) S = run 72 j 44 [a0, a1, a2, a3] (vI (x &&& y) :: st) S := st_ rfl
theorem s72_44 {j : Nat} {a0 : av} {a1 : av} {a2 : av} {a3 : av} {st : List av} (v : Int32) (x : Int32) (q : Nat) (S : Sto) : run 72 j 44 [a0, a1, a2, a3] (vI v :: vI x :: vR 4 q :: st) S = if ib x 12 then run 72 j 45 [a0, a1, a2, a3] st (uI S 4 q x.toNatClampNeg v) else none := st_itN rfl
theorem s72_45 {j : Nat} {a1 : av} {a2 : av} {a3 : av} {st : List av} (q : Nat) (S : Sto) : run 72 j 45 [vR 1 q, a1, a2, a3] st S = run 72 j 46 [vR 1 q, a1, a2, a3] (vR 1 q :: st) S := st_ rfl
theorem s72_46 {j : Nat} {a0 : av} {a1 : av} {a2 : av} {a3 : av} {st : List av} (q : Nat) (S : Sto) : run 72 j 46 [a0, a1, a2, a3] (vR 1 q :: st) S = run 72 j 49 [a0, a1, a2, a3] (vR 4 q :: st) S := st_ rfl
theorem s72_49 {j : Nat} {a0 : av} {a1 : av} {a3 : av} {st : List av} (x : Int32) (S : Sto) : run 72 j 49 [a0, a1, vI x, a3] st S = run 72 j 50 [a0, a1, vI x, a3] (vI x :: st) S := st_ rfl
theorem s72_50 {j : Nat} {a0 : av} {a1 : av} {a2 : av} {a3 : av} {st : List av} (x : Int32) (y : Nat) (S : Sto) : run 72 j 50 [a0, a1, a2, a3] (vI x :: vR 4 y :: st) S = run 72 j 51 [a0, a1, a2, a3] (vI x :: vR 4 y :: vI x :: vR 4 y :: st) S := st_ rfl
theorem s72_51 {j : Nat} {a0 : av} {a1 : av} {a2 : av} {a3 : av} {st : List av} (x : Int32) (q : Nat) (S : Sto) : run 72 j 51 [a0, a1, a2, a3] (vI x :: vR 4 q :: st) S = if ib x 12 then run 72 j 52 [a0, a1, a2, a3] (vI (S.1 4 q x.toNatClampNeg) :: st) S else none := st_itN rfl
theorem s72_52 {j : Nat} {a0 : av} {a1 : av} {a2 : av} {a3 : av} {st : List av} (S : Sto) : run 72 j 52 [a0, a1, a2, a3] st S = run 72 j 53 [a0, a1, a2, a3] (vI 1 :: st) S := st_ rfl
theorem s72_53 {j : Nat} {a0 : av} {a2 : av} {a3 : av} {st : List av} (x : Int32) (S : Sto) : run 72 j 53 [a0, vI x, a2, a3] st S = run 72 j 54 [a0, vI x, a2, a3] (vI x :: st) S := st_ rfl
theorem s72_54 {j : Nat} {a0 : av} {a1 : av} {a2 : av} {a3 : av} {st : List av} (x y : Int32) (S : Sto) : run 72 j 54 [a0, a1, a2, a3] (vI y :: vI x :: st) S = run 72 j 55 [a0, a1, a2, a3] (vI (x <<< (y &&& 31)) :: st) S := st_ rfl
theorem s72_55 {j : Nat} {a0 : av} {a1 : av} {a2 : av} {a3 : av} {st : List av} (S : Sto) : run 72 j 55 [a0, a1, a2, a3] st S = run 72 j 56 [a0, a1, a2, a3] (vI (-1) :: st) S := st_ rfl
theorem s72_56 {j : Nat} {a0 : av} {a1 : av} {a2 : av} {a3 : av} {st : List av} (x y : Int32) (S : Sto) : run 72 j 56 [a0, a1, a2, a3] (vI y :: vI x :: st) S = run 72 j 57 [a0, a1, a2, a3] (vI (x ^^^ y) :: st) S := st_ rfl
theorem s72_57 {j : Nat} {a0 : av} {a1 : av} {a2 : av} {a3 : av} {st : List av} (x y : Int32) (S : Sto) : run 72 j 57 [a0, a1, a2, a3] (vI y :: vI x :: st) S = run 72 j 58 [a0, a1, a2, a3] (vI (x &&& y) :: st) S := st_ rfl
theorem s72_58 {j : Nat} {a0 : av} {a1 : av} {a2 : av} {a3 : av} {st : List av} (v : Int32) (x : Int32) (q : Nat) (S : Sto) : run 72 j 58 [a0, a1, a2, a3] (vI v :: vI x :: vR 4 q :: st) S = if ib x 12 then run 72 j 59 [a0, a1, a2, a3] st (uI S 4 q x.toNatClampNeg v) else none := st_itN rfl
theorem s72_59 {j : Nat} {a0 : av} {a1 : av} {a2 : av} {a3 : av} (S : Sto) : run 72 j 59 [a0, a1, a2, a3] [] S = some (none, S) := st_r rfl
/-! 73 Town_ownedBy -/
theorem s73_0 {j : Nat} {a0 : av} {a1 : av} {a2 : av} {a3 : av} {st : List av} (S : Sto) : run 73 j 0 [a0, a1, a2, a3] st S = run 73 j 1 [a0, a1, a2, a3] (vI 0 :: st) S := st_ rfl
theorem s73_1 {j : Nat} {a0 : av} {a1 : av} {a2 : av} {a3 : av} {st : List av} (x : Int32) (S : Sto) : run 73 j 1 [a0, a1, a2, a3] (vI x :: st) S = run 73 j 2 [a0, a1, vI x, a3] st S := st_ rfl
theorem s73_2 {j : Nat} {a0 : av} {a1 : av} {a2 : av} {a3 : av} {st : List av} (S : Sto) : run 73 j 2 [a0, a1, a2, a3] st S = run 73 j 3 [a0, a1, a2, a3] (vI 0 :: st) S := st_ rfl
theorem s73_3 {j : Nat} {a0 : av} {a1 : av} {a2 : av} {a3 : av} {st : List av} (x : Int32) (S : Sto) : run 73 j 3 [a0, a1, a2, a3] (vI x :: st) S = run 73 j 4 [a0, a1, a2, vI x] st S := st_ rfl
theorem s73_4 {j : Nat} {a0 : av} {a1 : av} {a2 : av} {st : List av} (x : Int32) (S : Sto) : run 73 j 4 [a0, a1, a2, vI x] st S = run 73 j 5 [a0, a1, a2, vI x] (vI x :: st) S := st_ rfl
theorem s73_5 {j : Nat} {a0 : av} {a1 : av} {a2 : av} {a3 : av} {st : List av} (S : Sto) : run 73 j 5 [a0, a1, a2, a3] st S = run 73 j 6 [a0, a1, a2, a3] (vI 2 :: st) S := st_ rfl
theorem s73_6 {j : Nat} {a1 : av} {a2 : av} {a3 : av} {st : List av} (q : Nat) (S : Sto) : run 73 j 6 [vR 1 q, a1, a2, a3] st S = run 73 j 7 [vR 1 q, a1, a2, a3] (vR 1 q :: st) S := st_ rfl
theorem s73_7 {j : Nat} {a0 : av} {a1 : av} {a2 : av} {a3 : av} {st : List av} (q : Nat) (S : Sto) : run 73 j 7 [a0, a1, a2, a3] (vR 1 q :: st) S = run 73 j 10 [a0, a1, a2, a3] (vI (S.1 1 q 7) :: st) S := st_ rfl
theorem s73_10 {j : Nat} {a0 : av} {a1 : av} {a2 : av} {a3 : av} {st : List av} (x y : Int32) (S : Sto) : run 73 j 10 [a0, a1, a2, a3] (vI y :: vI x :: st) S = run 73 j 11 [a0, a1, a2, a3] (vI (x * y) :: st) S := st_ rfl
theorem s73_11 {j : Nat} {a0 : av} {a1 : av} {a2 : av} {a3 : av} {st : List av} (x y : Int32) (S : Sto) : run 73 j 11 [a0, a1, a2, a3] (vI y :: vI x :: st) S = if y ≤ x then run 73 j 33 [a0, a1, a2, a3] st S else run 73 j 14 [a0, a1, a2, a3] st S := st_ite rfl
theorem s73_14 {j : Nat} {a1 : av} {a2 : av} {a3 : av} {st : List av} (q : Nat) (S : Sto) : run 73 j 14 [vR 1 q, a1, a2, a3] st S = run 73 j 15 [vR 1 q, a1, a2, a3] (vR 1 q :: st) S := st_ rfl
theorem s73_15 {j : Nat} {a0 : av} {a1 : av} {a2 : av} {a3 : av} {st : List av} (q : Nat) (S : Sto) : run 73 j 15 [a0, a1, a2, a3] (vR 1 q :: st) S = run 73 j 18 [a0, a1, a2, a3] (vR 7 q :: st) S := st_ rfl
theorem s73_18 {j : Nat} {a0 : av} {a1 : av} {a2 : av} {st : List av} (x : Int32) (S : Sto) : run 73 j 18 [a0, a1, a2, vI x] st S = run 73 j 19 [a0, a1, a2, vI x] (vI x :: st) S := st_ rfl
theorem s73_19 {j : Nat} {a0 : av} {a1 : av} {a2 : av} {a3 : av} {st : List av} (x : Int32) (q : Nat) (S : Sto) : run 73 j 19 [a0, a1, a2, a3] (vI x :: vR 7 q :: st) S = if ib x 48 then run 73 j 20 [a0, a1, a2, a3] (vI (S.1 7 q x.toNatClampNeg) :: st) S else none := st_itN rfl
theorem s73_20 {j : Nat} {a0 : av} {a2 : av} {a3 : av} {st : List av} (x : Int32) (S : Sto) : run 73 j 20 [a0, vI x, a2, a3] st S = run 73 j 21 [a0, vI x, a2, a3] (vI x :: st) S := st_ rfl
theorem s73_21 {j : Nat} {a0 : av} {a1 : av} {a2 : av} {a3 : av} {st : List av} (x y : Int32) (S : Sto) : run 73 j 21 [a0, a1, a2, a3] (vI y :: vI x :: st) S = if x = y then run 73 j 24 [a0, a1, a2, a3] st S else run 73 j 27 [a0, a1, a2, a3] st S := st_ite rfl
theorem s73_24 {j : Nat} {a0 : av} {a1 : av} {a3 : av} {st : List av} (x : Int32) (S : Sto) : run 73 j 24 [a0, a1, vI x, a3] st S = run 73 j 27 [a0, a1, vI (x + 1), a3] st S := st_ rfl
theorem s73_27 {j : Nat} {a0 : av} {a1 : av} {a2 : av} {st : List av} (x : Int32) (S : Sto) : run 73 j 27 [a0, a1, a2, vI x] st S = run 73 j 30 [a0, a1, a2, vI (x + 1)] st S := st_ rfl
theorem s73_30 {j : Nat} {a0 : av} {a1 : av} {a2 : av} {a3 : av} {st : List av} (S : Sto) : run 73 j 30 [a0, a1, a2, a3] st S = run 73 j 4 [a0, a1, a2, a3] st S := st_ rfl
theorem s73_33 {j : Nat} {a0 : av} {a1 : av} {a3 : av} {st : List av} (x : Int32) (S : Sto) : run 73 j 33 [a0, a1, vI x, a3] st S = run 73 j 34 [a0, a1, vI x, a3] (vI x :: st) S := st_ rfl
theorem s73_34 {j : Nat} {a0 : av} {a1 : av} {a2 : av} {a3 : av} (x : Int32) (S : Sto) : run 73 j 34 [a0, a1, a2, a3] [vI x] S = some (some (vI x), S) := st_r rfl
/-! 74 Town_contentOf -/
theorem s74_0 {j : Nat} {a0 : av} {a1 : av} {a2 : av} {a3 : av} {st : List av} (S : Sto) : run 74 j 0 [a0, a1, a2, a3] st S = run 74 j 1 [a0, a1, a2, a3] (vI 0 :: st) S := st_ rfl
theorem s74_1 {j : Nat} {a0 : av} {a1 : av} {a2 : av} {a3 : av} {st : List av} (x : Int32) (S : Sto) : run 74 j 1 [a0, a1, a2, a3] (vI x :: st) S = run 74 j 2 [a0, a1, vI x, a3] st S := st_ rfl
theorem s74_2 {j : Nat} {a0 : av} {a1 : av} {a2 : av} {a3 : av} {st : List av} (S : Sto) : run 74 j 2 [a0, a1, a2, a3] st S = run 74 j 3 [a0, a1, a2, a3] (vI 0 :: st) S := st_ rfl
theorem s74_3 {j : Nat} {a0 : av} {a1 : av} {a2 : av} {a3 : av} {st : List av} (x : Int32) (S : Sto) : run 74 j 3 [a0, a1, a2, a3] (vI x :: st) S = run 74 j 4 [a0, a1, a2, vI x] st S := st_ rfl
theorem s74_4 {j : Nat} {a0 : av} {a1 : av} {a2 : av} {st : List av} (x : Int32) (S : Sto) : run 74 j 4 [a0, a1, a2, vI x] st S = run 74 j 5 [a0, a1, a2, vI x] (vI x :: st) S := st_ rfl
theorem s74_5 {j : Nat} {a0 : av} {a1 : av} {a2 : av} {a3 : av} {st : List av} (S : Sto) : run 74 j 5 [a0, a1, a2, a3] st S = run 74 j 6 [a0, a1, a2, a3] (vI 2 :: st) S := st_ rfl
theorem s74_6 {j : Nat} {a1 : av} {a2 : av} {a3 : av} {st : List av} (q : Nat) (S : Sto) : run 74 j 6 [vR 1 q, a1, a2, a3] st S = run 74 j 7 [vR 1 q, a1, a2, a3] (vR 1 q :: st) S := st_ rfl
theorem s74_7 {j : Nat} {a0 : av} {a1 : av} {a2 : av} {a3 : av} {st : List av} (q : Nat) (S : Sto) : run 74 j 7 [a0, a1, a2, a3] (vR 1 q :: st) S = run 74 j 10 [a0, a1, a2, a3] (vI (S.1 1 q 7) :: st) S := st_ rfl
theorem s74_10 {j : Nat} {a0 : av} {a1 : av} {a2 : av} {a3 : av} {st : List av} (x y : Int32) (S : Sto) : run 74 j 10 [a0, a1, a2, a3] (vI y :: vI x :: st) S = run 74 j 11 [a0, a1, a2, a3] (vI (x * y) :: st) S := st_ rfl
theorem s74_11 {j : Nat} {a0 : av} {a1 : av} {a2 : av} {a3 : av} {st : List av} (x y : Int32) (S : Sto) : run 74 j 11 [a0, a1, a2, a3] (vI y :: vI x :: st) S = if y ≤ x then run 74 j 51 [a0, a1, a2, a3] st S else run 74 j 14 [a0, a1, a2, a3] st S := st_ite rfl
theorem s74_14 {j : Nat} {a1 : av} {a2 : av} {a3 : av} {st : List av} (q : Nat) (S : Sto) : run 74 j 14 [vR 1 q, a1, a2, a3] st S = run 74 j 15 [vR 1 q, a1, a2, a3] (vR 1 q :: st) S := st_ rfl
theorem s74_15 {j : Nat} {a0 : av} {a1 : av} {a2 : av} {a3 : av} {st : List av} (q : Nat) (S : Sto) : run 74 j 15 [a0, a1, a2, a3] (vR 1 q :: st) S = run 74 j 18 [a0, a1, a2, a3] (vR 7 q :: st) S := st_ rfl
theorem s74_18 {j : Nat} {a0 : av} {a1 : av} {a2 : av} {st : List av} (x : Int32) (S : Sto) : run 74 j 18 [a0, a1, a2, vI x] st S = run 74 j 19 [a0, a1, a2, vI x] (vI x :: st) S := st_ rfl
theorem s74_19 {j : Nat} {a0 : av} {a1 : av} {a2 : av} {a3 : av} {st : List av} (x : Int32) (q : Nat) (S : Sto) : run 74 j 19 [a0, a1, a2, a3] (vI x :: vR 7 q :: st) S = if ib x 48 then run 74 j 20 [a0, a1, a2, a3] (vI (S.1 7 q x.toNatClampNeg) :: st) S else none := st_itN rfl
theorem s74_20 {j : Nat} {a0 : av} {a2 : av} {a3 : av} {st : List av} (x : Int32) (S : Sto) : run 74 j 20 [a0, vI x, a2, a3] st S = run 74 j 21 [a0, vI x, a2, a3] (vI x :: st) S := st_ rfl
theorem s74_21 {j : Nat} {a0 : av} {a1 : av} {a2 : av} {a3 : av} {st : List av} (x y : Int32) (S : Sto) : run 74 j 21 [a0, a1, a2, a3] (vI y :: vI x :: st) S = if x = y then run 74 j 24 [a0, a1, a2, a3] st S else run 74 j 45 [a0, a1, a2, a3] st S := st_ite rfl
theorem s74_24 {j : Nat} {a0 : av} {a1 : av} {a3 : av} {st : List av} (x : Int32) (S : Sto) : run 74 j 24 [a0, a1, vI x, a3] st S = run 74 j 25 [a0, a1, vI x, a3] (vI x :: st) S := st_ rfl
theorem s74_25 {j : Nat} {a1 : av} {a2 : av} {a3 : av} {st : List av} (q : Nat) (S : Sto) : run 74 j 25 [vR 1 q, a1, a2, a3] st S = run 74 j 26 [vR 1 q, a1, a2, a3] (vR 1 q :: st) S := st_ rfl
theorem s74_26 {j : Nat} {a0 : av} {a1 : av} {a2 : av} {a3 : av} {st : List av} (q : Nat) (S : Sto) : run 74 j 26 [a0, a1, a2, a3] (vR 1 q :: st) S = run 74 j 29 [a0, a1, a2, a3] (vR 5 q :: st) S := st_ rfl
theorem s74_29 {j : Nat} {a0 : av} {a2 : av} {a3 : av} {st : List av} (x : Int32) (S : Sto) : run 74 j 29 [a0, vI x, a2, a3] st S = run 74 j 30 [a0, vI x, a2, a3] (vI x :: st) S := st_ rfl
theorem s74_30 {j : Nat} {a0 : av} {a1 : av} {a2 : av} {a3 : av} {st : List av} (S : Sto) : run 74 j 30 [a0, a1, a2, a3] st S = run 74 j 32 [a0, a1, a2, a3] (vI 12 :: st) S := st_ rfl
theorem s74_32 {j : Nat} {a0 : av} {a1 : av} {a2 : av} {a3 : av} {st : List av} (x y : Int32) (S : Sto) : run 74 j 32 [a0, a1, a2, a3] (vI y :: vI x :: st) S = run 74 j 33 [a0, a1, a2, a3] (vI (x * y) :: st) S := st_ rfl
theorem s74_33 {j : Nat} {a1 : av} {a2 : av} {a3 : av} {st : List av} (q : Nat) (S : Sto) : run 74 j 33 [vR 1 q, a1, a2, a3] st S = run 74 j 34 [vR 1 q, a1, a2, a3] (vR 1 q :: st) S := st_ rfl
theorem s74_34 {j : Nat} {a0 : av} {a1 : av} {a2 : av} {a3 : av} {st : List av} (q : Nat) (S : Sto) : run 74 j 34 [a0, a1, a2, a3] (vR 1 q :: st) S = run 74 j 37 [a0, a1, a2, a3] (vR 7 q :: st) S := st_ rfl
theorem s74_37 {j : Nat} {a0 : av} {a1 : av} {a2 : av} {st : List av} (x : Int32) (S : Sto) : run 74 j 37 [a0, a1, a2, vI x] st S = run 74 j 38 [a0, a1, a2, vI x] (vI x :: st) S := st_ rfl
theorem s74_38 {j : Nat} {a0 : av} {a1 : av} {a2 : av} {a3 : av} {st : List av} (S : Sto) : run 74 j 38 [a0, a1, a2, a3] st S = run 74 j 39 [a0, a1, a2, a3] (vI 1 :: st) S := st_ rfl
theorem s74_39 {j : Nat} {a0 : av} {a1 : av} {a2 : av} {a3 : av} {st : List av} (x y : Int32) (S : Sto) : run 74 j 39 [a0, a1, a2, a3] (vI y :: vI x :: st) S = run 74 j 40 [a0, a1, a2, a3] (vI (x ^^^ y) :: st) S := st_ rfl
theorem s74_40 {j : Nat} {a0 : av} {a1 : av} {a2 : av} {a3 : av} {st : List av} (x : Int32) (q : Nat) (S : Sto) : run 74 j 40 [a0, a1, a2, a3] (vI x :: vR 7 q :: st) S = if ib x 48 then run 74 j 41 [a0, a1, a2, a3] (vI (S.1 7 q x.toNatClampNeg) :: st) S else none := st_itN rfl
theorem s74_41 {j : Nat} {a0 : av} {a1 : av} {a2 : av} {a3 : av} {st : List av} (x y : Int32) (S : Sto) : run 74 j 41 [a0, a1, a2, a3] (vI y :: vI x :: st) S = run 74 j 42 [a0, a1, a2, a3] (vI (x + y) :: st) S := st_ rfl
theorem s74_42 {j : Nat} {a0 : av} {a1 : av} {a2 : av} {a3 : av} {st : List av} (x : Int32) (q : Nat) (S : Sto) : run 74 j 42 [a0, a1, a2, a3] (vI x :: vR 5 q :: st) S = if ib x 144 then run 74 j 43 [a0, a1, a2, a3] (vI (S.1 5 q x.toNatClampNeg) :: st) S else none := st_itN rfl
theorem s74_43 {j : Nat} {a0 : av} {a1 : av} {a2 : av} {a3 : av} {st : List av} (x y : Int32) (S : Sto) : run 74 j 43 [a0, a1, a2, a3] (vI y :: vI x :: st) S = run 74 j 44 [a0, a1, a2, a3] (vI (x + y) :: st) S := st_ rfl
theorem s74_44 {j : Nat} {a0 : av} {a1 : av} {a2 : av} {a3 : av} {st : List av} (x : Int32) (S : Sto) : run 74 j 44 [a0, a1, a2, a3] (vI x :: st) S = run 74 j 45 [a0, a1, vI x, a3] st S := st_ rfl
theorem s74_45 {j : Nat} {a0 : av} {a1 : av} {a2 : av} {st : List av} (x : Int32) (S : Sto) : run 74 j 45 [a0, a1, a2, vI x] st S = run 74 j 48 [a0, a1, a2, vI (x + 1)] st S := st_ rfl
theorem s74_48 {j : Nat} {a0 : av} {a1 : av} {a2 : av} {a3 : av} {st : List av} (S : Sto) : run 74 j 48 [a0, a1, a2, a3] st S = run 74 j 4 [a0, a1, a2, a3] st S := st_ rfl
theorem s74_51 {j : Nat} {a0 : av} {a1 : av} {a3 : av} {st : List av} (x : Int32) (S : Sto) : run 74 j 51 [a0, a1, vI x, a3] st S = run 74 j 52 [a0, a1, vI x, a3] (vI x :: st) S := st_ rfl
theorem s74_52 {j : Nat} {a0 : av} {a1 : av} {a2 : av} {a3 : av} (x : Int32) (S : Sto) : run 74 j 52 [a0, a1, a2, a3] [vI x] S = some (some (vI x), S) := st_r rfl
/-! 75 Town_matesOf -/
theorem s75_0 {j : Nat} {a0 : av} {a1 : av} {a2 : av} {a3 : av} {st : List av} (S : Sto) : run 75 j 0 [a0, a1, a2, a3] st S = run 75 j 1 [a0, a1, a2, a3] (vI 0 :: st) S := st_ rfl
theorem s75_1 {j : Nat} {a0 : av} {a1 : av} {a2 : av} {a3 : av} {st : List av} (x : Int32) (S : Sto) : run 75 j 1 [a0, a1, a2, a3] (vI x :: st) S = run 75 j 2 [a0, a1, vI x, a3] st S := st_ rfl
theorem s75_2 {j : Nat} {a0 : av} {a1 : av} {a2 : av} {a3 : av} {st : List av} (S : Sto) : run 75 j 2 [a0, a1, a2, a3] st S = run 75 j 3 [a0, a1, a2, a3] (vI 0 :: st) S := st_ rfl
theorem s75_3 {j : Nat} {a0 : av} {a1 : av} {a2 : av} {a3 : av} {st : List av} (x : Int32) (S : Sto) : run 75 j 3 [a0, a1, a2, a3] (vI x :: st) S = run 75 j 4 [a0, a1, a2, vI x] st S := st_ rfl
theorem s75_4 {j : Nat} {a0 : av} {a1 : av} {a2 : av} {st : List av} (x : Int32) (S : Sto) : run 75 j 4 [a0, a1, a2, vI x] st S = run 75 j 5 [a0, a1, a2, vI x] (vI x :: st) S := st_ rfl
theorem s75_5 {j : Nat} {a0 : av} {a1 : av} {a2 : av} {a3 : av} {st : List av} (S : Sto) : run 75 j 5 [a0, a1, a2, a3] st S = run 75 j 6 [a0, a1, a2, a3] (vI 2 :: st) S := st_ rfl
theorem s75_6 {j : Nat} {a1 : av} {a2 : av} {a3 : av} {st : List av} (q : Nat) (S : Sto) : run 75 j 6 [vR 1 q, a1, a2, a3] st S = run 75 j 7 [vR 1 q, a1, a2, a3] (vR 1 q :: st) S := st_ rfl
theorem s75_7 {j : Nat} {a0 : av} {a1 : av} {a2 : av} {a3 : av} {st : List av} (q : Nat) (S : Sto) : run 75 j 7 [a0, a1, a2, a3] (vR 1 q :: st) S = run 75 j 10 [a0, a1, a2, a3] (vI (S.1 1 q 7) :: st) S := st_ rfl
theorem s75_10 {j : Nat} {a0 : av} {a1 : av} {a2 : av} {a3 : av} {st : List av} (x y : Int32) (S : Sto) : run 75 j 10 [a0, a1, a2, a3] (vI y :: vI x :: st) S = run 75 j 11 [a0, a1, a2, a3] (vI (x * y) :: st) S := st_ rfl
theorem s75_11 {j : Nat} {a0 : av} {a1 : av} {a2 : av} {a3 : av} {st : List av} (x y : Int32) (S : Sto) : run 75 j 11 [a0, a1, a2, a3] (vI y :: vI x :: st) S = if y ≤ x then run 75 j 43 [a0, a1, a2, a3] st S else run 75 j 14 [a0, a1, a2, a3] st S := st_ite rfl
theorem s75_14 {j : Nat} {a1 : av} {a2 : av} {a3 : av} {st : List av} (q : Nat) (S : Sto) : run 75 j 14 [vR 1 q, a1, a2, a3] st S = run 75 j 15 [vR 1 q, a1, a2, a3] (vR 1 q :: st) S := st_ rfl
theorem s75_15 {j : Nat} {a0 : av} {a1 : av} {a2 : av} {a3 : av} {st : List av} (q : Nat) (S : Sto) : run 75 j 15 [a0, a1, a2, a3] (vR 1 q :: st) S = run 75 j 18 [a0, a1, a2, a3] (vR 7 q :: st) S := st_ rfl
theorem s75_18 {j : Nat} {a0 : av} {a1 : av} {a2 : av} {st : List av} (x : Int32) (S : Sto) : run 75 j 18 [a0, a1, a2, vI x] st S = run 75 j 19 [a0, a1, a2, vI x] (vI x :: st) S := st_ rfl
theorem s75_19 {j : Nat} {a0 : av} {a1 : av} {a2 : av} {a3 : av} {st : List av} (x : Int32) (q : Nat) (S : Sto) : run 75 j 19 [a0, a1, a2, a3] (vI x :: vR 7 q :: st) S = if ib x 48 then run 75 j 20 [a0, a1, a2, a3] (vI (S.1 7 q x.toNatClampNeg) :: st) S else none := st_itN rfl
theorem s75_20 {j : Nat} {a0 : av} {a2 : av} {a3 : av} {st : List av} (x : Int32) (S : Sto) : run 75 j 20 [a0, vI x, a2, a3] st S = run 75 j 21 [a0, vI x, a2, a3] (vI x :: st) S := st_ rfl
theorem s75_21 {j : Nat} {a0 : av} {a1 : av} {a2 : av} {a3 : av} {st : List av} (x y : Int32) (S : Sto) : run 75 j 21 [a0, a1, a2, a3] (vI y :: vI x :: st) S = if x = y then run 75 j 24 [a0, a1, a2, a3] st S else run 75 j 37 [a0, a1, a2, a3] st S := st_ite rfl
theorem s75_24 {j : Nat} {a0 : av} {a1 : av} {a3 : av} {st : List av} (x : Int32) (S : Sto) : run 75 j 24 [a0, a1, vI x, a3] st S = run 75 j 25 [a0, a1, vI x, a3] (vI x :: st) S := st_ rfl
theorem s75_25 {j : Nat} {a0 : av} {a1 : av} {a2 : av} {a3 : av} {st : List av} (S : Sto) : run 75 j 25 [a0, a1, a2, a3] st S = run 75 j 26 [a0, a1, a2, a3] (vI 1 :: st) S := st_ rfl
theorem s75_26 {j : Nat} {a1 : av} {a2 : av} {a3 : av} {st : List av} (q : Nat) (S : Sto) : run 75 j 26 [vR 1 q, a1, a2, a3] st S = run 75 j 27 [vR 1 q, a1, a2, a3] (vR 1 q :: st) S := st_ rfl
theorem s75_27 {j : Nat} {a0 : av} {a1 : av} {a2 : av} {a3 : av} {st : List av} (q : Nat) (S : Sto) : run 75 j 27 [a0, a1, a2, a3] (vR 1 q :: st) S = run 75 j 30 [a0, a1, a2, a3] (vR 7 q :: st) S := st_ rfl
theorem s75_30 {j : Nat} {a0 : av} {a1 : av} {a2 : av} {st : List av} (x : Int32) (S : Sto) : run 75 j 30 [a0, a1, a2, vI x] st S = run 75 j 31 [a0, a1, a2, vI x] (vI x :: st) S := st_ rfl
theorem s75_31 {j : Nat} {a0 : av} {a1 : av} {a2 : av} {a3 : av} {st : List av} (S : Sto) : run 75 j 31 [a0, a1, a2, a3] st S = run 75 j 32 [a0, a1, a2, a3] (vI 1 :: st) S := st_ rfl
theorem s75_32 {j : Nat} {a0 : av} {a1 : av} {a2 : av} {a3 : av} {st : List av} (x y : Int32) (S : Sto) : run 75 j 32 [a0, a1, a2, a3] (vI y :: vI x :: st) S = run 75 j 33 [a0, a1, a2, a3] (vI (x ^^^ y) :: st) S := st_ rfl
theorem s75_33 {j : Nat} {a0 : av} {a1 : av} {a2 : av} {a3 : av} {st : List av} (x : Int32) (q : Nat) (S : Sto) : run 75 j 33 [a0, a1, a2, a3] (vI x :: vR 7 q :: st) S = if ib x 48 then run 75 j 34 [a0, a1, a2, a3] (vI (S.1 7 q x.toNatClampNeg) :: st) S else none := st_itN rfl
theorem s75_34 {j : Nat} {a0 : av} {a1 : av} {a2 : av} {a3 : av} {st : List av} (x y : Int32) (S : Sto) : run 75 j 34 [a0, a1, a2, a3] (vI y :: vI x :: st) S = run 75 j 35 [a0, a1, a2, a3] (vI (x <<< (y &&& 31)) :: st) S := st_ rfl
theorem s75_35 {j : Nat} {a0 : av} {a1 : av} {a2 : av} {a3 : av} {st : List av} (x y : Int32) (S : Sto) : run 75 j 35 [a0, a1, a2, a3] (vI y :: vI x :: st) S = run 75 j 36 [a0, a1, a2, a3] (vI (x ||| y) :: st) S := st_ rfl
theorem s75_36 {j : Nat} {a0 : av} {a1 : av} {a2 : av} {a3 : av} {st : List av} (x : Int32) (S : Sto) : run 75 j 36 [a0, a1, a2, a3] (vI x :: st) S = run 75 j 37 [a0, a1, vI x, a3] st S := st_ rfl
theorem s75_37 {j : Nat} {a0 : av} {a1 : av} {a2 : av} {st : List av} (x : Int32) (S : Sto) : run 75 j 37 [a0, a1, a2, vI x] st S = run 75 j 40 [a0, a1, a2, vI (x + 1)] st S := st_ rfl
theorem s75_40 {j : Nat} {a0 : av} {a1 : av} {a2 : av} {a3 : av} {st : List av} (S : Sto) : run 75 j 40 [a0, a1, a2, a3] st S = run 75 j 4 [a0, a1, a2, a3] st S := st_ rfl
theorem s75_43 {j : Nat} {a0 : av} {a1 : av} {a3 : av} {st : List av} (x : Int32) (S : Sto) : run 75 j 43 [a0, a1, vI x, a3] st S = run 75 j 44 [a0, a1, vI x, a3] (vI x :: st) S := st_ rfl
theorem s75_44 {j : Nat} {a0 : av} {a1 : av} {a2 : av} {a3 : av} (x0 : Int32) (S : Sto) : run 75 j 44 [a0, a1, a2, a3] [vI x0] S = bV (call 270 0 [vI x0] S) (fun v S' => run 75 j 47 [a0, a1, a2, a3] (v :: []) S') := st_cV rfl
theorem s75_47 {j : Nat} {a0 : av} {a1 : av} {a2 : av} {a3 : av} (x : Int32) (S : Sto) : run 75 j 47 [a0, a1, a2, a3] [vI x] S = some (some (vI x), S) := st_r rfl
/-! 76 Town_sharedBy -/
theorem s76_0 {j : Nat} {a0 : av} {a1 : av} {a2 : av} {a3 : av} {a4 : av} {st : List av} (S : Sto) : run 76 j 0 [a0, a1, a2, a3, a4] st S = run 76 j 1 [a0, a1, a2, a3, a4] (vI 0 :: st) S := st_ rfl
theorem s76_1 {j : Nat} {a0 : av} {a1 : av} {a2 : av} {a3 : av} {a4 : av} {st : List av} (x : Int32) (S : Sto) : run 76 j 1 [a0, a1, a2, a3, a4] (vI x :: st) S = run 76 j 2 [a0, a1, a2, vI x, a4] st S := st_ rfl
theorem s76_2 {j : Nat} {a0 : av} {a1 : av} {a2 : av} {a3 : av} {a4 : av} {st : List av} (S : Sto) : run 76 j 2 [a0, a1, a2, a3, a4] st S = run 76 j 3 [a0, a1, a2, a3, a4] (vI 0 :: st) S := st_ rfl
theorem s76_3 {j : Nat} {a0 : av} {a1 : av} {a2 : av} {a3 : av} {a4 : av} {st : List av} (x : Int32) (S : Sto) : run 76 j 3 [a0, a1, a2, a3, a4] (vI x :: st) S = run 76 j 5 [a0, a1, a2, a3, vI x] st S := st_ rfl
theorem s76_5 {j : Nat} {a0 : av} {a1 : av} {a2 : av} {a3 : av} {st : List av} (x : Int32) (S : Sto) : run 76 j 5 [a0, a1, a2, a3, vI x] st S = run 76 j 7 [a0, a1, a2, a3, vI x] (vI x :: st) S := st_ rfl
theorem s76_7 {j : Nat} {a0 : av} {a1 : av} {a2 : av} {a3 : av} {a4 : av} {st : List av} (S : Sto) : run 76 j 7 [a0, a1, a2, a3, a4] st S = run 76 j 8 [a0, a1, a2, a3, a4] (vI 2 :: st) S := st_ rfl
theorem s76_8 {j : Nat} {a1 : av} {a2 : av} {a3 : av} {a4 : av} {st : List av} (q : Nat) (S : Sto) : run 76 j 8 [vR 1 q, a1, a2, a3, a4] st S = run 76 j 9 [vR 1 q, a1, a2, a3, a4] (vR 1 q :: st) S := st_ rfl
theorem s76_9 {j : Nat} {a0 : av} {a1 : av} {a2 : av} {a3 : av} {a4 : av} {st : List av} (q : Nat) (S : Sto) : run 76 j 9 [a0, a1, a2, a3, a4] (vR 1 q :: st) S = run 76 j 12 [a0, a1, a2, a3, a4] (vI (S.1 1 q 7) :: st) S := st_ rfl
theorem s76_12 {j : Nat} {a0 : av} {a1 : av} {a2 : av} {a3 : av} {a4 : av} {st : List av} (x y : Int32) (S : Sto) : run 76 j 12 [a0, a1, a2, a3, a4] (vI y :: vI x :: st) S = run 76 j 13 [a0, a1, a2, a3, a4] (vI (x * y) :: st) S := st_ rfl
theorem s76_13 {j : Nat} {a0 : av} {a1 : av} {a2 : av} {a3 : av} {a4 : av} {st : List av} (x y : Int32) (S : Sto) : run 76 j 13 [a0, a1, a2, a3, a4] (vI y :: vI x :: st) S = if y ≤ x then run 76 j 49 [a0, a1, a2, a3, a4] st S else run 76 j 16 [a0, a1, a2, a3, a4] st S := st_ite rfl
theorem s76_16 {j : Nat} {a1 : av} {a2 : av} {a3 : av} {a4 : av} {st : List av} (q : Nat) (S : Sto) : run 76 j 16 [vR 1 q, a1, a2, a3, a4] st S = run 76 j 17 [vR 1 q, a1, a2, a3, a4] (vR 1 q :: st) S := st_ rfl
theorem s76_17 {j : Nat} {a0 : av} {a1 : av} {a2 : av} {a3 : av} {a4 : av} {st : List av} (q : Nat) (S : Sto) : run 76 j 17 [a0, a1, a2, a3, a4] (vR 1 q :: st) S = run 76 j 20 [a0, a1, a2, a3, a4] (vR 7 q :: st) S := st_ rfl
theorem s76_20 {j : Nat} {a0 : av} {a1 : av} {a2 : av} {a3 : av} {st : List av} (x : Int32) (S : Sto) : run 76 j 20 [a0, a1, a2, a3, vI x] st S = run 76 j 22 [a0, a1, a2, a3, vI x] (vI x :: st) S := st_ rfl
theorem s76_22 {j : Nat} {a0 : av} {a1 : av} {a2 : av} {a3 : av} {a4 : av} {st : List av} (x : Int32) (q : Nat) (S : Sto) : run 76 j 22 [a0, a1, a2, a3, a4] (vI x :: vR 7 q :: st) S = if ib x 48 then run 76 j 23 [a0, a1, a2, a3, a4] (vI (S.1 7 q x.toNatClampNeg) :: st) S else none := st_itN rfl
theorem s76_23 {j : Nat} {a0 : av} {a2 : av} {a3 : av} {a4 : av} {st : List av} (x : Int32) (S : Sto) : run 76 j 23 [a0, vI x, a2, a3, a4] st S = run 76 j 24 [a0, vI x, a2, a3, a4] (vI x :: st) S := st_ rfl
theorem s76_24 {j : Nat} {a0 : av} {a1 : av} {a2 : av} {a3 : av} {a4 : av} {st : List av} (x y : Int32) (S : Sto) : run 76 j 24 [a0, a1, a2, a3, a4] (vI y :: vI x :: st) S = if x = y then run 76 j 27 [a0, a1, a2, a3, a4] st S else run 76 j 43 [a0, a1, a2, a3, a4] st S := st_ite rfl
theorem s76_27 {j : Nat} {a1 : av} {a2 : av} {a3 : av} {a4 : av} {st : List av} (q : Nat) (S : Sto) : run 76 j 27 [vR 1 q, a1, a2, a3, a4] st S = run 76 j 28 [vR 1 q, a1, a2, a3, a4] (vR 1 q :: st) S := st_ rfl
theorem s76_28 {j : Nat} {a0 : av} {a1 : av} {a2 : av} {a3 : av} {a4 : av} {st : List av} (q : Nat) (S : Sto) : run 76 j 28 [a0, a1, a2, a3, a4] (vR 1 q :: st) S = run 76 j 31 [a0, a1, a2, a3, a4] (vR 7 q :: st) S := st_ rfl
theorem s76_31 {j : Nat} {a0 : av} {a1 : av} {a2 : av} {a3 : av} {st : List av} (x : Int32) (S : Sto) : run 76 j 31 [a0, a1, a2, a3, vI x] st S = run 76 j 33 [a0, a1, a2, a3, vI x] (vI x :: st) S := st_ rfl
theorem s76_33 {j : Nat} {a0 : av} {a1 : av} {a2 : av} {a3 : av} {a4 : av} {st : List av} (S : Sto) : run 76 j 33 [a0, a1, a2, a3, a4] st S = run 76 j 34 [a0, a1, a2, a3, a4] (vI 1 :: st) S := st_ rfl
theorem s76_34 {j : Nat} {a0 : av} {a1 : av} {a2 : av} {a3 : av} {a4 : av} {st : List av} (x y : Int32) (S : Sto) : run 76 j 34 [a0, a1, a2, a3, a4] (vI y :: vI x :: st) S = run 76 j 35 [a0, a1, a2, a3, a4] (vI (x ^^^ y) :: st) S := st_ rfl
theorem s76_35 {j : Nat} {a0 : av} {a1 : av} {a2 : av} {a3 : av} {a4 : av} {st : List av} (x : Int32) (q : Nat) (S : Sto) : run 76 j 35 [a0, a1, a2, a3, a4] (vI x :: vR 7 q :: st) S = if ib x 48 then run 76 j 36 [a0, a1, a2, a3, a4] (vI (S.1 7 q x.toNatClampNeg) :: st) S else none := st_itN rfl
theorem s76_36 {j : Nat} {a0 : av} {a1 : av} {a3 : av} {a4 : av} {st : List av} (x : Int32) (S : Sto) : run 76 j 36 [a0, a1, vI x, a3, a4] st S = run 76 j 37 [a0, a1, vI x, a3, a4] (vI x :: st) S := st_ rfl
theorem s76_37 {j : Nat} {a0 : av} {a1 : av} {a2 : av} {a3 : av} {a4 : av} {st : List av} (x y : Int32) (S : Sto) : run 76 j 37 [a0, a1, a2, a3, a4] (vI y :: vI x :: st) S = if x = y then run 76 j 40 [a0, a1, a2, a3, a4] st S else run 76 j 43 [a0, a1, a2, a3, a4] st S := st_ite rfl
theorem s76_40 {j : Nat} {a0 : av} {a1 : av} {a2 : av} {a4 : av} {st : List av} (x : Int32) (S : Sto) : run 76 j 40 [a0, a1, a2, vI x, a4] st S = run 76 j 43 [a0, a1, a2, vI (x + 1), a4] st S := st_ rfl
theorem s76_43 {j : Nat} {a0 : av} {a1 : av} {a2 : av} {a3 : av} {st : List av} (x : Int32) (S : Sto) : run 76 j 43 [a0, a1, a2, a3, vI x] st S = run 76 j 46 [a0, a1, a2, a3, vI (x + 1)] st S := st_ rfl
theorem s76_46 {j : Nat} {a0 : av} {a1 : av} {a2 : av} {a3 : av} {a4 : av} {st : List av} (S : Sto) : run 76 j 46 [a0, a1, a2, a3, a4] st S = run 76 j 5 [a0, a1, a2, a3, a4] st S := st_ rfl
theorem s76_49 {j : Nat} {a0 : av} {a1 : av} {a2 : av} {a4 : av} {st : List av} (x : Int32) (S : Sto) : run 76 j 49 [a0, a1, a2, vI x, a4] st S = run 76 j 50 [a0, a1, a2, vI x, a4] (vI x :: st) S := st_ rfl
theorem s76_50 {j : Nat} {a0 : av} {a1 : av} {a2 : av} {a3 : av} {a4 : av} (x : Int32) (S : Sto) : run 76 j 50 [a0, a1, a2, a3, a4] [vI x] S = some (some (vI x), S) := st_r rfl
/-! 77 Town_isThing -/
theorem s77_0 {j : Nat} {a0 : av} {st : List av} (x : Int32) (S : Sto) : run 77 j 0 [a0, vI x] st S = run 77 j 1 [a0, vI x] (vI x :: st) S := st_ rfl
theorem s77_1 {j : Nat} {a0 : av} {a1 : av} {st : List av} (x : Int32) (S : Sto) : run 77 j 1 [a0, a1] (vI x :: st) S = if x < 0 then run 77 j 16 [a0, a1] st S else run 77 j 4 [a0, a1] st S := st_ite rfl
theorem s77_4 {j : Nat} {a0 : av} {st : List av} (x : Int32) (S : Sto) : run 77 j 4 [a0, vI x] st S = run 77 j 5 [a0, vI x] (vI x :: st) S := st_ rfl
theorem s77_5 {j : Nat} {a1 : av} {st : List av} (q : Nat) (S : Sto) : run 77 j 5 [vR 1 q, a1] st S = run 77 j 6 [vR 1 q, a1] (vR 1 q :: st) S := st_ rfl
theorem s77_6 {j : Nat} {a0 : av} {a1 : av} {st : List av} (q : Nat) (S : Sto) : run 77 j 6 [a0, a1] (vR 1 q :: st) S = run 77 j 9 [a0, a1] (vI (S.1 1 q 7) :: st) S := st_ rfl
theorem s77_9 {j : Nat} {a0 : av} {a1 : av} {st : List av} (x y : Int32) (S : Sto) : run 77 j 9 [a0, a1] (vI y :: vI x :: st) S = if y ≤ x then run 77 j 16 [a0, a1] st S else run 77 j 12 [a0, a1] st S := st_ite rfl
theorem s77_12 {j : Nat} {a0 : av} {a1 : av} {st : List av} (S : Sto) : run 77 j 12 [a0, a1] st S = run 77 j 13 [a0, a1] (vI 1 :: st) S := st_ rfl
theorem s77_13 {j : Nat} {a0 : av} {a1 : av} {st : List av} (S : Sto) : run 77 j 13 [a0, a1] st S = run 77 j 17 [a0, a1] st S := st_ rfl
theorem s77_16 {j : Nat} {a0 : av} {a1 : av} {st : List av} (S : Sto) : run 77 j 16 [a0, a1] st S = run 77 j 17 [a0, a1] (vI 0 :: st) S := st_ rfl
theorem s77_17 {j : Nat} {a0 : av} {a1 : av} (x : Int32) (S : Sto) : run 77 j 17 [a0, a1] [vI x] S = if vp_nar .boolean x = x then some (some (vI x), S) else none := st_rb rfl
/-! 78 Town_isWork -/
theorem s78_0 {j : Nat} {a0 : av} {st : List av} (x : Int32) (S : Sto) : run 78 j 0 [a0, vI x] st S = run 78 j 1 [a0, vI x] (vI x :: st) S := st_ rfl
theorem s78_1 {j : Nat} {a0 : av} {a1 : av} {st : List av} (x : Int32) (S : Sto) : run 78 j 1 [a0, a1] (vI x :: st) S = if x < 0 then run 78 j 16 [a0, a1] st S else run 78 j 4 [a0, a1] st S := st_ite rfl
theorem s78_4 {j : Nat} {a0 : av} {st : List av} (x : Int32) (S : Sto) : run 78 j 4 [a0, vI x] st S = run 78 j 5 [a0, vI x] (vI x :: st) S := st_ rfl
theorem s78_5 {j : Nat} {a1 : av} {st : List av} (q : Nat) (S : Sto) : run 78 j 5 [vR 1 q, a1] st S = run 78 j 6 [vR 1 q, a1] (vR 1 q :: st) S := st_ rfl
theorem s78_6 {j : Nat} {a0 : av} {a1 : av} {st : List av} (q : Nat) (S : Sto) : run 78 j 6 [a0, a1] (vR 1 q :: st) S = run 78 j 9 [a0, a1] (vI (S.1 1 q 10) :: st) S := st_ rfl
theorem s78_9 {j : Nat} {a0 : av} {a1 : av} {st : List av} (x y : Int32) (S : Sto) : run 78 j 9 [a0, a1] (vI y :: vI x :: st) S = if y ≤ x then run 78 j 16 [a0, a1] st S else run 78 j 12 [a0, a1] st S := st_ite rfl
theorem s78_12 {j : Nat} {a0 : av} {a1 : av} {st : List av} (S : Sto) : run 78 j 12 [a0, a1] st S = run 78 j 13 [a0, a1] (vI 1 :: st) S := st_ rfl
theorem s78_13 {j : Nat} {a0 : av} {a1 : av} {st : List av} (S : Sto) : run 78 j 13 [a0, a1] st S = run 78 j 17 [a0, a1] st S := st_ rfl
theorem s78_16 {j : Nat} {a0 : av} {a1 : av} {st : List av} (S : Sto) : run 78 j 16 [a0, a1] st S = run 78 j 17 [a0, a1] (vI 0 :: st) S := st_ rfl
theorem s78_17 {j : Nat} {a0 : av} {a1 : av} (x : Int32) (S : Sto) : run 78 j 17 [a0, a1] [vI x] S = if vp_nar .boolean x = x then some (some (vI x), S) else none := st_rb rfl
/-! 79 Town_isInWork -/
theorem s79_0 {j : Nat} {a1 : av} {a2 : av} {st : List av} (q : Nat) (S : Sto) : run 79 j 0 [vR 1 q, a1, a2] st S = run 79 j 1 [vR 1 q, a1, a2] (vR 1 q :: st) S := st_ rfl
theorem s79_1 {j : Nat} {a0 : av} {a1 : av} {st : List av} (x : Int32) (S : Sto) : run 79 j 1 [a0, a1, vI x] st S = run 79 j 2 [a0, a1, vI x] (vI x :: st) S := st_ rfl
theorem s79_2 {j : Nat} {a0 : av} {a1 : av} {a2 : av} (x0 : Int32) (x1 : Nat) (S : Sto) : run 79 j 2 [a0, a1, a2] [vI x0, vR 1 x1] S = bV (call 78 0 [vR 1 x1, vI x0] S) (fun v S' => run 79 j 5 [a0, a1, a2] (v :: []) S') := st_cV rfl
theorem s79_5 {j : Nat} {a0 : av} {a1 : av} {a2 : av} {st : List av} (x : Int32) (S : Sto) : run 79 j 5 [a0, a1, a2] (vI x :: st) S = if x = 0 then run 79 j 33 [a0, a1, a2] st S else run 79 j 8 [a0, a1, a2] st S := st_ite rfl
theorem s79_8 {j : Nat} {a1 : av} {a2 : av} {st : List av} (q : Nat) (S : Sto) : run 79 j 8 [vR 1 q, a1, a2] st S = run 79 j 9 [vR 1 q, a1, a2] (vR 1 q :: st) S := st_ rfl
theorem s79_9 {j : Nat} {a0 : av} {a2 : av} {st : List av} (x : Int32) (S : Sto) : run 79 j 9 [a0, vI x, a2] st S = run 79 j 10 [a0, vI x, a2] (vI x :: st) S := st_ rfl
theorem s79_10 {j : Nat} {a0 : av} {a1 : av} {a2 : av} (x0 : Int32) (x1 : Nat) (S : Sto) : run 79 j 10 [a0, a1, a2] [vI x0, vR 1 x1] S = bV (call 77 0 [vR 1 x1, vI x0] S) (fun v S' => run 79 j 13 [a0, a1, a2] (v :: []) S') := st_cV rfl
theorem s79_13 {j : Nat} {a0 : av} {a1 : av} {a2 : av} {st : List av} (x : Int32) (S : Sto) : run 79 j 13 [a0, a1, a2] (vI x :: st) S = if x = 0 then run 79 j 33 [a0, a1, a2] st S else run 79 j 16 [a0, a1, a2] st S := st_ite rfl
theorem s79_16 {j : Nat} {a1 : av} {a2 : av} {st : List av} (q : Nat) (S : Sto) : run 79 j 16 [vR 1 q, a1, a2] st S = run 79 j 17 [vR 1 q, a1, a2] (vR 1 q :: st) S := st_ rfl
theorem s79_17 {j : Nat} {a0 : av} {a1 : av} {a2 : av} {st : List av} (q : Nat) (S : Sto) : run 79 j 17 [a0, a1, a2] (vR 1 q :: st) S = run 79 j 20 [a0, a1, a2] (vR 10 q :: st) S := st_ rfl
theorem s79_20 {j : Nat} {a0 : av} {a1 : av} {st : List av} (x : Int32) (S : Sto) : run 79 j 20 [a0, a1, vI x] st S = run 79 j 21 [a0, a1, vI x] (vI x :: st) S := st_ rfl
theorem s79_21 {j : Nat} {a0 : av} {a1 : av} {a2 : av} {st : List av} (x : Int32) (q : Nat) (S : Sto) : run 79 j 21 [a0, a1, a2] (vI x :: vR 10 q :: st) S = if ib x 12 then run 79 j 22 [a0, a1, a2] (vI (S.1 10 q x.toNatClampNeg) :: st) S else none := st_itN rfl
theorem s79_22 {j : Nat} {a0 : av} {a2 : av} {st : List av} (x : Int32) (S : Sto) : run 79 j 22 [a0, vI x, a2] st S = run 79 j 23 [a0, vI x, a2] (vI x :: st) S := st_ rfl
theorem s79_23 {j : Nat} {a0 : av} {a1 : av} {a2 : av} (x0 : Int32) (x1 : Int32) (S : Sto) : run 79 j 23 [a0, a1, a2] [vI x0, vI x1] S = bV (call 96 0 [vI x1, vI x0] S) (fun v S' => run 79 j 26 [a0, a1, a2] (v :: []) S') := st_cV rfl
theorem s79_26 {j : Nat} {a0 : av} {a1 : av} {a2 : av} {st : List av} (x : Int32) (S : Sto) : run 79 j 26 [a0, a1, a2] (vI x :: st) S = if x = 0 then run 79 j 33 [a0, a1, a2] st S else run 79 j 29 [a0, a1, a2] st S := st_ite rfl
theorem s79_29 {j : Nat} {a0 : av} {a1 : av} {a2 : av} {st : List av} (S : Sto) : run 79 j 29 [a0, a1, a2] st S = run 79 j 30 [a0, a1, a2] (vI 1 :: st) S := st_ rfl
theorem s79_30 {j : Nat} {a0 : av} {a1 : av} {a2 : av} {st : List av} (S : Sto) : run 79 j 30 [a0, a1, a2] st S = run 79 j 34 [a0, a1, a2] st S := st_ rfl
theorem s79_33 {j : Nat} {a0 : av} {a1 : av} {a2 : av} {st : List av} (S : Sto) : run 79 j 33 [a0, a1, a2] st S = run 79 j 34 [a0, a1, a2] (vI 0 :: st) S := st_ rfl
theorem s79_34 {j : Nat} {a0 : av} {a1 : av} {a2 : av} (x : Int32) (S : Sto) : run 79 j 34 [a0, a1, a2] [vI x] S = if vp_nar .boolean x = x then some (some (vI x), S) else none := st_rb rfl
/-! 80 Town_isFree -/
theorem s80_0 {j : Nat} {a1 : av} {a2 : av} {st : List av} (q : Nat) (S : Sto) : run 80 j 0 [vR 1 q, a1, a2] st S = run 80 j 1 [vR 1 q, a1, a2] (vR 1 q :: st) S := st_ rfl
theorem s80_1 {j : Nat} {a0 : av} {a1 : av} {a2 : av} {st : List av} (q : Nat) (S : Sto) : run 80 j 1 [a0, a1, a2] (vR 1 q :: st) S = run 80 j 4 [a0, a1, a2] (vI (S.1 1 q 11) :: st) S := st_ rfl
theorem s80_4 {j : Nat} {a0 : av} {a2 : av} {st : List av} (x : Int32) (S : Sto) : run 80 j 4 [a0, vI x, a2] st S = run 80 j 5 [a0, vI x, a2] (vI x :: st) S := st_ rfl
theorem s80_5 {j : Nat} {a0 : av} {a1 : av} {a2 : av} (x0 : Int32) (x1 : Int32) (S : Sto) : run 80 j 5 [a0, a1, a2] [vI x0, vI x1] S = bV (call 96 0 [vI x1, vI x0] S) (fun v S' => run 80 j 8 [a0, a1, a2] (v :: []) S') := st_cV rfl
theorem s80_8 {j : Nat} {a0 : av} {a1 : av} {a2 : av} {st : List av} (x : Int32) (S : Sto) : run 80 j 8 [a0, a1, a2] (vI x :: st) S = if x = 0 then run 80 j 11 [a0, a1, a2] st S else run 80 j 27 [a0, a1, a2] st S := st_ite rfl
theorem s80_11 {j : Nat} {a1 : av} {a2 : av} {st : List av} (q : Nat) (S : Sto) : run 80 j 11 [vR 1 q, a1, a2] st S = run 80 j 12 [vR 1 q, a1, a2] (vR 1 q :: st) S := st_ rfl
theorem s80_12 {j : Nat} {a0 : av} {a1 : av} {a2 : av} {st : List av} (q : Nat) (S : Sto) : run 80 j 12 [a0, a1, a2] (vR 1 q :: st) S = run 80 j 15 [a0, a1, a2] (vI (S.1 1 q 1) :: st) S := st_ rfl
theorem s80_15 {j : Nat} {a1 : av} {a2 : av} {st : List av} (q : Nat) (S : Sto) : run 80 j 15 [vR 1 q, a1, a2] st S = run 80 j 16 [vR 1 q, a1, a2] (vR 1 q :: st) S := st_ rfl
theorem s80_16 {j : Nat} {a0 : av} {a1 : av} {a2 : av} {st : List av} (q : Nat) (S : Sto) : run 80 j 16 [a0, a1, a2] (vR 1 q :: st) S = run 80 j 19 [a0, a1, a2] (vR 9 q :: st) S := st_ rfl
theorem s80_19 {j : Nat} {a0 : av} {a2 : av} {st : List av} (x : Int32) (S : Sto) : run 80 j 19 [a0, vI x, a2] st S = run 80 j 20 [a0, vI x, a2] (vI x :: st) S := st_ rfl
theorem s80_20 {j : Nat} {a0 : av} {a1 : av} {a2 : av} {st : List av} (x : Int32) (q : Nat) (S : Sto) : run 80 j 20 [a0, a1, a2] (vI x :: vR 9 q :: st) S = if ib x 12 then run 80 j 21 [a0, a1, a2] (vI (S.1 9 q x.toNatClampNeg) :: st) S else none := st_itN rfl
theorem s80_21 {j : Nat} {a0 : av} {a1 : av} {a2 : av} (x0 : Int32) (x1 : Int32) (S : Sto) : run 80 j 21 [a0, a1, a2] [vI x0, vI x1] S = bV (call 96 0 [vI x1, vI x0] S) (fun v S' => run 80 j 24 [a0, a1, a2] (v :: []) S') := st_cV rfl
theorem s80_24 {j : Nat} {a0 : av} {a1 : av} {a2 : av} {st : List av} (x : Int32) (S : Sto) : run 80 j 24 [a0, a1, a2] (vI x :: st) S = if x = 0 then run 80 j 27 [a0, a1, a2] st S else run 80 j 29 [a0, a1, a2] st S := st_ite rfl
theorem s80_27 {j : Nat} {a0 : av} {a1 : av} {a2 : av} {st : List av} (S : Sto) : run 80 j 27 [a0, a1, a2] st S = run 80 j 28 [a0, a1, a2] (vI 0 :: st) S := st_ rfl
theorem s80_28 {j : Nat} {a0 : av} {a1 : av} {a2 : av} (x : Int32) (S : Sto) : run 80 j 28 [a0, a1, a2] [vI x] S = if vp_nar .boolean x = x then some (some (vI x), S) else none := st_rb rfl
theorem s80_29 {j : Nat} {a0 : av} {a1 : av} {a2 : av} {st : List av} (S : Sto) : run 80 j 29 [a0, a1, a2] st S = run 80 j 30 [a0, a1, a2] (vI 0 :: st) S := st_ rfl
theorem s80_30 {j : Nat} {a0 : av} {a1 : av} {a2 : av} {st : List av} (x : Int32) (S : Sto) : run 80 j 30 [a0, a1, a2] (vI x :: st) S = run 80 j 31 [a0, a1, vI x] st S := st_ rfl
theorem s80_31 {j : Nat} {a0 : av} {a1 : av} {st : List av} (x : Int32) (S : Sto) : run 80 j 31 [a0, a1, vI x] st S = run 80 j 32 [a0, a1, vI x] (vI x :: st) S := st_ rfl
theorem s80_32 {j : Nat} {a1 : av} {a2 : av} {st : List av} (q : Nat) (S : Sto) : run 80 j 32 [vR 1 q, a1, a2] st S = run 80 j 33 [vR 1 q, a1, a2] (vR 1 q :: st) S := st_ rfl
theorem s80_33 {j : Nat} {a0 : av} {a1 : av} {a2 : av} {st : List av} (q : Nat) (S : Sto) : run 80 j 33 [a0, a1, a2] (vR 1 q :: st) S = run 80 j 36 [a0, a1, a2] (vI (S.1 1 q 10) :: st) S := st_ rfl
theorem s80_36 {j : Nat} {a0 : av} {a1 : av} {a2 : av} {st : List av} (x y : Int32) (S : Sto) : run 80 j 36 [a0, a1, a2] (vI y :: vI x :: st) S = if y ≤ x then run 80 j 67 [a0, a1, a2] st S else run 80 j 39 [a0, a1, a2] st S := st_ite rfl
theorem s80_39 {j : Nat} {a1 : av} {a2 : av} {st : List av} (q : Nat) (S : Sto) : run 80 j 39 [vR 1 q, a1, a2] st S = run 80 j 40 [vR 1 q, a1, a2] (vR 1 q :: st) S := st_ rfl
theorem s80_40 {j : Nat} {a0 : av} {a1 : av} {a2 : av} {st : List av} (q : Nat) (S : Sto) : run 80 j 40 [a0, a1, a2] (vR 1 q :: st) S = run 80 j 43 [a0, a1, a2] (vI (S.1 1 q 11) :: st) S := st_ rfl
theorem s80_43 {j : Nat} {a0 : av} {a1 : av} {st : List av} (x : Int32) (S : Sto) : run 80 j 43 [a0, a1, vI x] st S = run 80 j 44 [a0, a1, vI x] (vI x :: st) S := st_ rfl
theorem s80_44 {j : Nat} {a0 : av} {a1 : av} {a2 : av} (x0 : Int32) (x1 : Int32) (S : Sto) : run 80 j 44 [a0, a1, a2] [vI x0, vI x1] S = bV (call 96 0 [vI x1, vI x0] S) (fun v S' => run 80 j 47 [a0, a1, a2] (v :: []) S') := st_cV rfl
theorem s80_47 {j : Nat} {a0 : av} {a1 : av} {a2 : av} {st : List av} (x : Int32) (S : Sto) : run 80 j 47 [a0, a1, a2] (vI x :: st) S = if x = 0 then run 80 j 61 [a0, a1, a2] st S else run 80 j 50 [a0, a1, a2] st S := st_ite rfl
theorem s80_50 {j : Nat} {a1 : av} {a2 : av} {st : List av} (q : Nat) (S : Sto) : run 80 j 50 [vR 1 q, a1, a2] st S = run 80 j 51 [vR 1 q, a1, a2] (vR 1 q :: st) S := st_ rfl
theorem s80_51 {j : Nat} {a0 : av} {a2 : av} {st : List av} (x : Int32) (S : Sto) : run 80 j 51 [a0, vI x, a2] st S = run 80 j 52 [a0, vI x, a2] (vI x :: st) S := st_ rfl
theorem s80_52 {j : Nat} {a0 : av} {a1 : av} {st : List av} (x : Int32) (S : Sto) : run 80 j 52 [a0, a1, vI x] st S = run 80 j 53 [a0, a1, vI x] (vI x :: st) S := st_ rfl
theorem s80_53 {j : Nat} {a0 : av} {a1 : av} {a2 : av} (x0 : Int32) (x1 : Int32) (x2 : Nat) (S : Sto) : run 80 j 53 [a0, a1, a2] [vI x0, vI x1, vR 1 x2] S = bV (call 81 0 [vR 1 x2, vI x1, vI x0] S) (fun v S' => run 80 j 56 [a0, a1, a2] (v :: []) S') := st_cV rfl
theorem s80_56 {j : Nat} {a0 : av} {a1 : av} {a2 : av} {st : List av} (x : Int32) (S : Sto) : run 80 j 56 [a0, a1, a2] (vI x :: st) S = if x = 0 then run 80 j 61 [a0, a1, a2] st S else run 80 j 59 [a0, a1, a2] st S := st_ite rfl
theorem s80_59 {j : Nat} {a0 : av} {a1 : av} {a2 : av} {st : List av} (S : Sto) : run 80 j 59 [a0, a1, a2] st S = run 80 j 60 [a0, a1, a2] (vI 0 :: st) S := st_ rfl
theorem s80_60 {j : Nat} {a0 : av} {a1 : av} {a2 : av} (x : Int32) (S : Sto) : run 80 j 60 [a0, a1, a2] [vI x] S = if vp_nar .boolean x = x then some (some (vI x), S) else none := st_rb rfl
theorem s80_61 {j : Nat} {a0 : av} {a1 : av} {st : List av} (x : Int32) (S : Sto) : run 80 j 61 [a0, a1, vI x] st S = run 80 j 64 [a0, a1, vI (x + 1)] st S := st_ rfl
theorem s80_64 {j : Nat} {a0 : av} {a1 : av} {a2 : av} {st : List av} (S : Sto) : run 80 j 64 [a0, a1, a2] st S = run 80 j 31 [a0, a1, a2] st S := st_ rfl
theorem s80_67 {j : Nat} {a0 : av} {a1 : av} {a2 : av} {st : List av} (S : Sto) : run 80 j 67 [a0, a1, a2] st S = run 80 j 68 [a0, a1, a2] (vI 1 :: st) S := st_ rfl
theorem s80_68 {j : Nat} {a0 : av} {a1 : av} {a2 : av} (x : Int32) (S : Sto) : run 80 j 68 [a0, a1, a2] [vI x] S = if vp_nar .boolean x = x then some (some (vI x), S) else none := st_rb rfl
/-! 81 Town_clash -/
theorem s81_0 {j : Nat} {a0 : av} {a2 : av} {st : List av} (x : Int32) (S : Sto) : run 81 j 0 [a0, vI x, a2] st S = run 81 j 1 [a0, vI x, a2] (vI x :: st) S := st_ rfl
theorem s81_1 {j : Nat} {a0 : av} {a1 : av} {st : List av} (x : Int32) (S : Sto) : run 81 j 1 [a0, a1, vI x] st S = run 81 j 2 [a0, a1, vI x] (vI x :: st) S := st_ rfl
theorem s81_2 {j : Nat} {a0 : av} {a1 : av} {a2 : av} {st : List av} (x y : Int32) (S : Sto) : run 81 j 2 [a0, a1, a2] (vI y :: vI x :: st) S = if x = y then run 81 j 40 [a0, a1, a2] st S else run 81 j 5 [a0, a1, a2] st S := st_ite rfl
theorem s81_5 {j : Nat} {a1 : av} {a2 : av} {st : List av} (q : Nat) (S : Sto) : run 81 j 5 [vR 1 q, a1, a2] st S = run 81 j 6 [vR 1 q, a1, a2] (vR 1 q :: st) S := st_ rfl
theorem s81_6 {j : Nat} {a0 : av} {a1 : av} {a2 : av} {st : List av} (q : Nat) (S : Sto) : run 81 j 6 [a0, a1, a2] (vR 1 q :: st) S = run 81 j 9 [a0, a1, a2] (vR 12 q :: st) S := st_ rfl
theorem s81_9 {j : Nat} {a0 : av} {a2 : av} {st : List av} (x : Int32) (S : Sto) : run 81 j 9 [a0, vI x, a2] st S = run 81 j 10 [a0, vI x, a2] (vI x :: st) S := st_ rfl
theorem s81_10 {j : Nat} {a0 : av} {a1 : av} {a2 : av} {st : List av} (x : Int32) (q : Nat) (S : Sto) : run 81 j 10 [a0, a1, a2] (vI x :: vR 12 q :: st) S = if ib x 12 then run 81 j 11 [a0, a1, a2] (vI (S.1 12 q x.toNatClampNeg) :: st) S else none := st_itN rfl
theorem s81_11 {j : Nat} {a1 : av} {a2 : av} {st : List av} (q : Nat) (S : Sto) : run 81 j 11 [vR 1 q, a1, a2] st S = run 81 j 12 [vR 1 q, a1, a2] (vR 1 q :: st) S := st_ rfl
theorem s81_12 {j : Nat} {a0 : av} {a1 : av} {a2 : av} {st : List av} (q : Nat) (S : Sto) : run 81 j 12 [a0, a1, a2] (vR 1 q :: st) S = run 81 j 15 [a0, a1, a2] (vR 12 q :: st) S := st_ rfl
theorem s81_15 {j : Nat} {a0 : av} {a1 : av} {st : List av} (x : Int32) (S : Sto) : run 81 j 15 [a0, a1, vI x] st S = run 81 j 16 [a0, a1, vI x] (vI x :: st) S := st_ rfl
theorem s81_16 {j : Nat} {a0 : av} {a1 : av} {a2 : av} {st : List av} (x : Int32) (q : Nat) (S : Sto) : run 81 j 16 [a0, a1, a2] (vI x :: vR 12 q :: st) S = if ib x 12 then run 81 j 17 [a0, a1, a2] (vI (S.1 12 q x.toNatClampNeg) :: st) S else none := st_itN rfl
theorem s81_17 {j : Nat} {a0 : av} {a1 : av} {a2 : av} {st : List av} (x y : Int32) (S : Sto) : run 81 j 17 [a0, a1, a2] (vI y :: vI x :: st) S = if x = y then run 81 j 20 [a0, a1, a2] st S else run 81 j 40 [a0, a1, a2] st S := st_ite rfl
theorem s81_20 {j : Nat} {a1 : av} {a2 : av} {st : List av} (q : Nat) (S : Sto) : run 81 j 20 [vR 1 q, a1, a2] st S = run 81 j 21 [vR 1 q, a1, a2] (vR 1 q :: st) S := st_ rfl
theorem s81_21 {j : Nat} {a0 : av} {a1 : av} {a2 : av} {st : List av} (q : Nat) (S : Sto) : run 81 j 21 [a0, a1, a2] (vR 1 q :: st) S = run 81 j 24 [a0, a1, a2] (vR 10 q :: st) S := st_ rfl
theorem s81_24 {j : Nat} {a0 : av} {a2 : av} {st : List av} (x : Int32) (S : Sto) : run 81 j 24 [a0, vI x, a2] st S = run 81 j 25 [a0, vI x, a2] (vI x :: st) S := st_ rfl
theorem s81_25 {j : Nat} {a0 : av} {a1 : av} {a2 : av} {st : List av} (x : Int32) (q : Nat) (S : Sto) : run 81 j 25 [a0, a1, a2] (vI x :: vR 10 q :: st) S = if ib x 12 then run 81 j 26 [a0, a1, a2] (vI (S.1 10 q x.toNatClampNeg) :: st) S else none := st_itN rfl
theorem s81_26 {j : Nat} {a1 : av} {a2 : av} {st : List av} (q : Nat) (S : Sto) : run 81 j 26 [vR 1 q, a1, a2] st S = run 81 j 27 [vR 1 q, a1, a2] (vR 1 q :: st) S := st_ rfl
theorem s81_27 {j : Nat} {a0 : av} {a1 : av} {a2 : av} {st : List av} (q : Nat) (S : Sto) : run 81 j 27 [a0, a1, a2] (vR 1 q :: st) S = run 81 j 30 [a0, a1, a2] (vR 10 q :: st) S := st_ rfl
theorem s81_30 {j : Nat} {a0 : av} {a1 : av} {st : List av} (x : Int32) (S : Sto) : run 81 j 30 [a0, a1, vI x] st S = run 81 j 31 [a0, a1, vI x] (vI x :: st) S := st_ rfl
theorem s81_31 {j : Nat} {a0 : av} {a1 : av} {a2 : av} {st : List av} (x : Int32) (q : Nat) (S : Sto) : run 81 j 31 [a0, a1, a2] (vI x :: vR 10 q :: st) S = if ib x 12 then run 81 j 32 [a0, a1, a2] (vI (S.1 10 q x.toNatClampNeg) :: st) S else none := st_itN rfl
theorem s81_32 {j : Nat} {a0 : av} {a1 : av} {a2 : av} {st : List av} (x y : Int32) (S : Sto) : run 81 j 32 [a0, a1, a2] (vI y :: vI x :: st) S = run 81 j 33 [a0, a1, a2] (vI (x &&& y) :: st) S := st_ rfl
theorem s81_33 {j : Nat} {a0 : av} {a1 : av} {a2 : av} {st : List av} (x : Int32) (S : Sto) : run 81 j 33 [a0, a1, a2] (vI x :: st) S = if x = 0 then run 81 j 40 [a0, a1, a2] st S else run 81 j 36 [a0, a1, a2] st S := st_ite rfl
theorem s81_36 {j : Nat} {a0 : av} {a1 : av} {a2 : av} {st : List av} (S : Sto) : run 81 j 36 [a0, a1, a2] st S = run 81 j 37 [a0, a1, a2] (vI 1 :: st) S := st_ rfl
theorem s81_37 {j : Nat} {a0 : av} {a1 : av} {a2 : av} {st : List av} (S : Sto) : run 81 j 37 [a0, a1, a2] st S = run 81 j 41 [a0, a1, a2] st S := st_ rfl
theorem s81_40 {j : Nat} {a0 : av} {a1 : av} {a2 : av} {st : List av} (S : Sto) : run 81 j 40 [a0, a1, a2] st S = run 81 j 41 [a0, a1, a2] (vI 0 :: st) S := st_ rfl
theorem s81_41 {j : Nat} {a0 : av} {a1 : av} {a2 : av} (x : Int32) (S : Sto) : run 81 j 41 [a0, a1, a2] [vI x] S = if vp_nar .boolean x = x then some (some (vI x), S) else none := st_rb rfl
/-! 82 Town_copyFrom -/
theorem s82_0 {j : Nat} {a1 : av} {st : List av} (q : Nat) (S : Sto) : run 82 j 0 [vR 1 q, a1] st S = run 82 j 1 [vR 1 q, a1] (vR 1 q :: st) S := st_ rfl
theorem s82_1 {j : Nat} {a0 : av} {st : List av} (q : Nat) (S : Sto) : run 82 j 1 [a0, vR 1 q] st S = run 82 j 2 [a0, vR 1 q] (vR 1 q :: st) S := st_ rfl
theorem s82_2 {j : Nat} {a0 : av} {a1 : av} {st : List av} (q : Nat) (S : Sto) : run 82 j 2 [a0, a1] (vR 1 q :: st) S = run 82 j 5 [a0, a1] (vI (S.1 1 q 0) :: st) S := st_ rfl
theorem s82_5 {j : Nat} {a0 : av} {a1 : av} {st : List av} (q : Nat) (x : Int32) (S : Sto) : run 82 j 5 [a0, a1] (vI x :: vR 1 q :: st) S = run 82 j 8 [a0, a1] st (uI S 1 q 0 x) := st_ rfl
theorem s82_8 {j : Nat} {a1 : av} {st : List av} (q : Nat) (S : Sto) : run 82 j 8 [vR 1 q, a1] st S = run 82 j 9 [vR 1 q, a1] (vR 1 q :: st) S := st_ rfl
theorem s82_9 {j : Nat} {a0 : av} {st : List av} (q : Nat) (S : Sto) : run 82 j 9 [a0, vR 1 q] st S = run 82 j 10 [a0, vR 1 q] (vR 1 q :: st) S := st_ rfl
theorem s82_10 {j : Nat} {a0 : av} {a1 : av} {st : List av} (q : Nat) (S : Sto) : run 82 j 10 [a0, a1] (vR 1 q :: st) S = run 82 j 13 [a0, a1] (vI (S.1 1 q 1) :: st) S := st_ rfl
theorem s82_13 {j : Nat} {a0 : av} {a1 : av} {st : List av} (q : Nat) (x : Int32) (S : Sto) : run 82 j 13 [a0, a1] (vI x :: vR 1 q :: st) S = run 82 j 16 [a0, a1] st (uI S 1 q 1 x) := st_ rfl
theorem s82_16 {j : Nat} {a0 : av} {st : List av} (q : Nat) (S : Sto) : run 82 j 16 [a0, vR 1 q] st S = run 82 j 17 [a0, vR 1 q] (vR 1 q :: st) S := st_ rfl
theorem s82_17 {j : Nat} {a0 : av} {a1 : av} {st : List av} (q : Nat) (S : Sto) : run 82 j 17 [a0, a1] (vR 1 q :: st) S = run 82 j 20 [a0, a1] (vR 2 q :: st) S := st_ rfl
theorem s82_20 {j : Nat} {a1 : av} {st : List av} (q : Nat) (S : Sto) : run 82 j 20 [vR 1 q, a1] st S = run 82 j 21 [vR 1 q, a1] (vR 1 q :: st) S := st_ rfl
theorem s82_21 {j : Nat} {a0 : av} {a1 : av} {st : List av} (q : Nat) (S : Sto) : run 82 j 21 [a0, a1] (vR 1 q :: st) S = run 82 j 24 [a0, a1] (vR 2 q :: st) S := st_ rfl
theorem s82_24 {j : Nat} {a0 : av} {a1 : av} (x0 : Nat) (x1 : Nat) (S : Sto) : run 82 j 24 [a0, a1] [vR 2 x0, vR 2 x1] S = bU (call 83 0 [vR 2 x1, vR 2 x0] S) (fun S' => run 82 j 27 [a0, a1] [] S') := st_cU rfl
theorem s82_27 {j : Nat} {a0 : av} {st : List av} (q : Nat) (S : Sto) : run 82 j 27 [a0, vR 1 q] st S = run 82 j 28 [a0, vR 1 q] (vR 1 q :: st) S := st_ rfl
theorem s82_28 {j : Nat} {a0 : av} {a1 : av} {st : List av} (q : Nat) (S : Sto) : run 82 j 28 [a0, a1] (vR 1 q :: st) S = run 82 j 31 [a0, a1] (vR 3 q :: st) S := st_ rfl
theorem s82_31 {j : Nat} {a1 : av} {st : List av} (q : Nat) (S : Sto) : run 82 j 31 [vR 1 q, a1] st S = run 82 j 32 [vR 1 q, a1] (vR 1 q :: st) S := st_ rfl
theorem s82_32 {j : Nat} {a0 : av} {a1 : av} {st : List av} (q : Nat) (S : Sto) : run 82 j 32 [a0, a1] (vR 1 q :: st) S = run 82 j 35 [a0, a1] (vR 3 q :: st) S := st_ rfl
theorem s82_35 {j : Nat} {a0 : av} {a1 : av} (x0 : Nat) (x1 : Nat) (S : Sto) : run 82 j 35 [a0, a1] [vR 3 x0, vR 3 x1] S = bU (call 83 0 [vR 3 x1, vR 3 x0] S) (fun S' => run 82 j 38 [a0, a1] [] S') := st_cU rfl
theorem s82_38 {j : Nat} {a0 : av} {st : List av} (q : Nat) (S : Sto) : run 82 j 38 [a0, vR 1 q] st S = run 82 j 39 [a0, vR 1 q] (vR 1 q :: st) S := st_ rfl
theorem s82_39 {j : Nat} {a0 : av} {a1 : av} {st : List av} (q : Nat) (S : Sto) : run 82 j 39 [a0, a1] (vR 1 q :: st) S = run 82 j 42 [a0, a1] (vR 4 q :: st) S := st_ rfl
theorem s82_42 {j : Nat} {a1 : av} {st : List av} (q : Nat) (S : Sto) : run 82 j 42 [vR 1 q, a1] st S = run 82 j 43 [vR 1 q, a1] (vR 1 q :: st) S := st_ rfl
theorem s82_43 {j : Nat} {a0 : av} {a1 : av} {st : List av} (q : Nat) (S : Sto) : run 82 j 43 [a0, a1] (vR 1 q :: st) S = run 82 j 46 [a0, a1] (vR 4 q :: st) S := st_ rfl
theorem s82_46 {j : Nat} {a0 : av} {a1 : av} (x0 : Nat) (x1 : Nat) (S : Sto) : run 82 j 46 [a0, a1] [vR 4 x0, vR 4 x1] S = bU (call 83 0 [vR 4 x1, vR 4 x0] S) (fun S' => run 82 j 49 [a0, a1] [] S') := st_cU rfl
theorem s82_49 {j : Nat} {a0 : av} {st : List av} (q : Nat) (S : Sto) : run 82 j 49 [a0, vR 1 q] st S = run 82 j 50 [a0, vR 1 q] (vR 1 q :: st) S := st_ rfl
theorem s82_50 {j : Nat} {a0 : av} {a1 : av} {st : List av} (q : Nat) (S : Sto) : run 82 j 50 [a0, a1] (vR 1 q :: st) S = run 82 j 53 [a0, a1] (vR 5 q :: st) S := st_ rfl
theorem s82_53 {j : Nat} {a1 : av} {st : List av} (q : Nat) (S : Sto) : run 82 j 53 [vR 1 q, a1] st S = run 82 j 54 [vR 1 q, a1] (vR 1 q :: st) S := st_ rfl
theorem s82_54 {j : Nat} {a0 : av} {a1 : av} {st : List av} (q : Nat) (S : Sto) : run 82 j 54 [a0, a1] (vR 1 q :: st) S = run 82 j 57 [a0, a1] (vR 5 q :: st) S := st_ rfl
theorem s82_57 {j : Nat} {a0 : av} {a1 : av} (x0 : Nat) (x1 : Nat) (S : Sto) : run 82 j 57 [a0, a1] [vR 5 x0, vR 5 x1] S = bU (call 83 0 [vR 5 x1, vR 5 x0] S) (fun S' => run 82 j 60 [a0, a1] [] S') := st_cU rfl
theorem s82_60 {j : Nat} {a0 : av} {st : List av} (q : Nat) (S : Sto) : run 82 j 60 [a0, vR 1 q] st S = run 82 j 61 [a0, vR 1 q] (vR 1 q :: st) S := st_ rfl
theorem s82_61 {j : Nat} {a0 : av} {a1 : av} {st : List av} (q : Nat) (S : Sto) : run 82 j 61 [a0, a1] (vR 1 q :: st) S = run 82 j 64 [a0, a1] (vR 6 q :: st) S := st_ rfl
theorem s82_64 {j : Nat} {a1 : av} {st : List av} (q : Nat) (S : Sto) : run 82 j 64 [vR 1 q, a1] st S = run 82 j 65 [vR 1 q, a1] (vR 1 q :: st) S := st_ rfl
theorem s82_65 {j : Nat} {a0 : av} {a1 : av} {st : List av} (q : Nat) (S : Sto) : run 82 j 65 [a0, a1] (vR 1 q :: st) S = run 82 j 68 [a0, a1] (vR 6 q :: st) S := st_ rfl
theorem s82_68 {j : Nat} {a0 : av} {a1 : av} (x0 : Nat) (x1 : Nat) (S : Sto) : run 82 j 68 [a0, a1] [vR 6 x0, vR 6 x1] S = bU (call 83 0 [vR 6 x1, vR 6 x0] S) (fun S' => run 82 j 71 [a0, a1] [] S') := st_cU rfl
theorem s82_71 {j : Nat} {a1 : av} {st : List av} (q : Nat) (S : Sto) : run 82 j 71 [vR 1 q, a1] st S = run 82 j 72 [vR 1 q, a1] (vR 1 q :: st) S := st_ rfl
theorem s82_72 {j : Nat} {a0 : av} {st : List av} (q : Nat) (S : Sto) : run 82 j 72 [a0, vR 1 q] st S = run 82 j 73 [a0, vR 1 q] (vR 1 q :: st) S := st_ rfl
theorem s82_73 {j : Nat} {a0 : av} {a1 : av} {st : List av} (q : Nat) (S : Sto) : run 82 j 73 [a0, a1] (vR 1 q :: st) S = run 82 j 76 [a0, a1] (vI (S.1 1 q 7) :: st) S := st_ rfl
theorem s82_76 {j : Nat} {a0 : av} {a1 : av} {st : List av} (q : Nat) (x : Int32) (S : Sto) : run 82 j 76 [a0, a1] (vI x :: vR 1 q :: st) S = run 82 j 79 [a0, a1] st (uI S 1 q 7 x) := st_ rfl
theorem s82_79 {j : Nat} {a0 : av} {st : List av} (q : Nat) (S : Sto) : run 82 j 79 [a0, vR 1 q] st S = run 82 j 80 [a0, vR 1 q] (vR 1 q :: st) S := st_ rfl
theorem s82_80 {j : Nat} {a0 : av} {a1 : av} {st : List av} (q : Nat) (S : Sto) : run 82 j 80 [a0, a1] (vR 1 q :: st) S = run 82 j 83 [a0, a1] (vR 7 q :: st) S := st_ rfl
theorem s82_83 {j : Nat} {a1 : av} {st : List av} (q : Nat) (S : Sto) : run 82 j 83 [vR 1 q, a1] st S = run 82 j 84 [vR 1 q, a1] (vR 1 q :: st) S := st_ rfl
theorem s82_84 {j : Nat} {a0 : av} {a1 : av} {st : List av} (q : Nat) (S : Sto) : run 82 j 84 [a0, a1] (vR 1 q :: st) S = run 82 j 87 [a0, a1] (vR 7 q :: st) S := st_ rfl
theorem s82_87 {j : Nat} {a0 : av} {a1 : av} (x0 : Nat) (x1 : Nat) (S : Sto) : run 82 j 87 [a0, a1] [vR 7 x0, vR 7 x1] S = bU (call 83 0 [vR 7 x1, vR 7 x0] S) (fun S' => run 82 j 90 [a0, a1] [] S') := st_cU rfl
theorem s82_90 {j : Nat} {a0 : av} {st : List av} (q : Nat) (S : Sto) : run 82 j 90 [a0, vR 1 q] st S = run 82 j 91 [a0, vR 1 q] (vR 1 q :: st) S := st_ rfl
theorem s82_91 {j : Nat} {a0 : av} {a1 : av} {st : List av} (q : Nat) (S : Sto) : run 82 j 91 [a0, a1] (vR 1 q :: st) S = run 82 j 94 [a0, a1] (vR 8 q :: st) S := st_ rfl
theorem s82_94 {j : Nat} {a1 : av} {st : List av} (q : Nat) (S : Sto) : run 82 j 94 [vR 1 q, a1] st S = run 82 j 95 [vR 1 q, a1] (vR 1 q :: st) S := st_ rfl
theorem s82_95 {j : Nat} {a0 : av} {a1 : av} {st : List av} (q : Nat) (S : Sto) : run 82 j 95 [a0, a1] (vR 1 q :: st) S = run 82 j 98 [a0, a1] (vR 8 q :: st) S := st_ rfl
theorem s82_98 {j : Nat} {a0 : av} {a1 : av} (x0 : Nat) (x1 : Nat) (S : Sto) : run 82 j 98 [a0, a1] [vR 8 x0, vR 8 x1] S = bU (call 83 0 [vR 8 x1, vR 8 x0] S) (fun S' => run 82 j 101 [a0, a1] [] S') := st_cU rfl
theorem s82_101 {j : Nat} {a1 : av} {st : List av} (q : Nat) (S : Sto) : run 82 j 101 [vR 1 q, a1] st S = run 82 j 102 [vR 1 q, a1] (vR 1 q :: st) S := st_ rfl
theorem s82_102 {j : Nat} {a0 : av} {st : List av} (q : Nat) (S : Sto) : run 82 j 102 [a0, vR 1 q] st S = run 82 j 103 [a0, vR 1 q] (vR 1 q :: st) S := st_ rfl
theorem s82_103 {j : Nat} {a0 : av} {a1 : av} {st : List av} (q : Nat) (S : Sto) : run 82 j 103 [a0, a1] (vR 1 q :: st) S = run 82 j 106 [a0, a1] (vI (S.1 1 q 10) :: st) S := st_ rfl
theorem s82_106 {j : Nat} {a0 : av} {a1 : av} {st : List av} (q : Nat) (x : Int32) (S : Sto) : run 82 j 106 [a0, a1] (vI x :: vR 1 q :: st) S = run 82 j 109 [a0, a1] st (uI S 1 q 10 x) := st_ rfl
theorem s82_109 {j : Nat} {a1 : av} {st : List av} (q : Nat) (S : Sto) : run 82 j 109 [vR 1 q, a1] st S = run 82 j 110 [vR 1 q, a1] (vR 1 q :: st) S := st_ rfl
theorem s82_110 {j : Nat} {a0 : av} {st : List av} (q : Nat) (S : Sto) : run 82 j 110 [a0, vR 1 q] st S = run 82 j 111 [a0, vR 1 q] (vR 1 q :: st) S := st_ rfl
theorem s82_111 {j : Nat} {a0 : av} {a1 : av} {st : List av} (q : Nat) (S : Sto) : run 82 j 111 [a0, a1] (vR 1 q :: st) S = run 82 j 114 [a0, a1] (vI (S.1 1 q 11) :: st) S := st_ rfl
theorem s82_114 {j : Nat} {a0 : av} {a1 : av} {st : List av} (q : Nat) (x : Int32) (S : Sto) : run 82 j 114 [a0, a1] (vI x :: vR 1 q :: st) S = run 82 j 117 [a0, a1] st (uI S 1 q 11 x) := st_ rfl
theorem s82_117 {j : Nat} {a0 : av} {st : List av} (q : Nat) (S : Sto) : run 82 j 117 [a0, vR 1 q] st S = run 82 j 118 [a0, vR 1 q] (vR 1 q :: st) S := st_ rfl
theorem s82_118 {j : Nat} {a0 : av} {a1 : av} {st : List av} (q : Nat) (S : Sto) : run 82 j 118 [a0, a1] (vR 1 q :: st) S = run 82 j 121 [a0, a1] (vR 9 q :: st) S := st_ rfl
theorem s82_121 {j : Nat} {a1 : av} {st : List av} (q : Nat) (S : Sto) : run 82 j 121 [vR 1 q, a1] st S = run 82 j 122 [vR 1 q, a1] (vR 1 q :: st) S := st_ rfl
theorem s82_122 {j : Nat} {a0 : av} {a1 : av} {st : List av} (q : Nat) (S : Sto) : run 82 j 122 [a0, a1] (vR 1 q :: st) S = run 82 j 125 [a0, a1] (vR 9 q :: st) S := st_ rfl
theorem s82_125 {j : Nat} {a0 : av} {a1 : av} (x0 : Nat) (x1 : Nat) (S : Sto) : run 82 j 125 [a0, a1] [vR 9 x0, vR 9 x1] S = bU (call 83 0 [vR 9 x1, vR 9 x0] S) (fun S' => run 82 j 128 [a0, a1] [] S') := st_cU rfl
theorem s82_128 {j : Nat} {a0 : av} {st : List av} (q : Nat) (S : Sto) : run 82 j 128 [a0, vR 1 q] st S = run 82 j 129 [a0, vR 1 q] (vR 1 q :: st) S := st_ rfl
theorem s82_129 {j : Nat} {a0 : av} {a1 : av} {st : List av} (q : Nat) (S : Sto) : run 82 j 129 [a0, a1] (vR 1 q :: st) S = run 82 j 132 [a0, a1] (vR 10 q :: st) S := st_ rfl
theorem s82_132 {j : Nat} {a1 : av} {st : List av} (q : Nat) (S : Sto) : run 82 j 132 [vR 1 q, a1] st S = run 82 j 133 [vR 1 q, a1] (vR 1 q :: st) S := st_ rfl
theorem s82_133 {j : Nat} {a0 : av} {a1 : av} {st : List av} (q : Nat) (S : Sto) : run 82 j 133 [a0, a1] (vR 1 q :: st) S = run 82 j 136 [a0, a1] (vR 10 q :: st) S := st_ rfl
theorem s82_136 {j : Nat} {a0 : av} {a1 : av} (x0 : Nat) (x1 : Nat) (S : Sto) : run 82 j 136 [a0, a1] [vR 10 x0, vR 10 x1] S = bU (call 83 0 [vR 10 x1, vR 10 x0] S) (fun S' => run 82 j 139 [a0, a1] [] S') := st_cU rfl
theorem s82_139 {j : Nat} {a0 : av} {st : List av} (q : Nat) (S : Sto) : run 82 j 139 [a0, vR 1 q] st S = run 82 j 140 [a0, vR 1 q] (vR 1 q :: st) S := st_ rfl
theorem s82_140 {j : Nat} {a0 : av} {a1 : av} {st : List av} (q : Nat) (S : Sto) : run 82 j 140 [a0, a1] (vR 1 q :: st) S = run 82 j 143 [a0, a1] (vR 11 q :: st) S := st_ rfl
theorem s82_143 {j : Nat} {a1 : av} {st : List av} (q : Nat) (S : Sto) : run 82 j 143 [vR 1 q, a1] st S = run 82 j 144 [vR 1 q, a1] (vR 1 q :: st) S := st_ rfl
theorem s82_144 {j : Nat} {a0 : av} {a1 : av} {st : List av} (q : Nat) (S : Sto) : run 82 j 144 [a0, a1] (vR 1 q :: st) S = run 82 j 147 [a0, a1] (vR 11 q :: st) S := st_ rfl
theorem s82_147 {j : Nat} {a0 : av} {a1 : av} (x0 : Nat) (x1 : Nat) (S : Sto) : run 82 j 147 [a0, a1] [vR 11 x0, vR 11 x1] S = bU (call 83 0 [vR 11 x1, vR 11 x0] S) (fun S' => run 82 j 150 [a0, a1] [] S') := st_cU rfl
theorem s82_150 {j : Nat} {a0 : av} {st : List av} (q : Nat) (S : Sto) : run 82 j 150 [a0, vR 1 q] st S = run 82 j 151 [a0, vR 1 q] (vR 1 q :: st) S := st_ rfl
theorem s82_151 {j : Nat} {a0 : av} {a1 : av} {st : List av} (q : Nat) (S : Sto) : run 82 j 151 [a0, a1] (vR 1 q :: st) S = run 82 j 154 [a0, a1] (vR 12 q :: st) S := st_ rfl
theorem s82_154 {j : Nat} {a1 : av} {st : List av} (q : Nat) (S : Sto) : run 82 j 154 [vR 1 q, a1] st S = run 82 j 155 [vR 1 q, a1] (vR 1 q :: st) S := st_ rfl
theorem s82_155 {j : Nat} {a0 : av} {a1 : av} {st : List av} (q : Nat) (S : Sto) : run 82 j 155 [a0, a1] (vR 1 q :: st) S = run 82 j 158 [a0, a1] (vR 12 q :: st) S := st_ rfl
theorem s82_158 {j : Nat} {a0 : av} {a1 : av} (x0 : Nat) (x1 : Nat) (S : Sto) : run 82 j 158 [a0, a1] [vR 12 x0, vR 12 x1] S = bU (call 83 0 [vR 12 x1, vR 12 x0] S) (fun S' => run 82 j 161 [a0, a1] [] S') := st_cU rfl
theorem s82_161 {j : Nat} {a1 : av} {st : List av} (q : Nat) (S : Sto) : run 82 j 161 [vR 1 q, a1] st S = run 82 j 162 [vR 1 q, a1] (vR 1 q :: st) S := st_ rfl
theorem s82_162 {j : Nat} {a0 : av} {st : List av} (q : Nat) (S : Sto) : run 82 j 162 [a0, vR 1 q] st S = run 82 j 163 [a0, vR 1 q] (vR 1 q :: st) S := st_ rfl
theorem s82_163 {j : Nat} {a0 : av} {a1 : av} {st : List av} (q : Nat) (S : Sto) : run 82 j 163 [a0, a1] (vR 1 q :: st) S = run 82 j 166 [a0, a1] (vI (S.1 1 q 16) :: st) S := st_ rfl
theorem s82_166 {j : Nat} {a0 : av} {a1 : av} {st : List av} (q : Nat) (x : Int32) (S : Sto) : run 82 j 166 [a0, a1] (vI x :: vR 1 q :: st) S = run 82 j 169 [a0, a1] st (uI S 1 q 16 x) := st_ rfl
theorem s82_169 {j : Nat} {a0 : av} {st : List av} (q : Nat) (S : Sto) : run 82 j 169 [a0, vR 1 q] st S = run 82 j 170 [a0, vR 1 q] (vR 1 q :: st) S := st_ rfl
theorem s82_170 {j : Nat} {a0 : av} {a1 : av} {st : List av} (q : Nat) (S : Sto) : run 82 j 170 [a0, a1] (vR 1 q :: st) S = run 82 j 173 [a0, a1] (vR 13 q :: st) S := st_ rfl
theorem s82_173 {j : Nat} {a1 : av} {st : List av} (q : Nat) (S : Sto) : run 82 j 173 [vR 1 q, a1] st S = run 82 j 174 [vR 1 q, a1] (vR 1 q :: st) S := st_ rfl
theorem s82_174 {j : Nat} {a0 : av} {a1 : av} {st : List av} (q : Nat) (S : Sto) : run 82 j 174 [a0, a1] (vR 1 q :: st) S = run 82 j 177 [a0, a1] (vR 13 q :: st) S := st_ rfl
theorem s82_177 {j : Nat} {a0 : av} {a1 : av} (x0 : Nat) (x1 : Nat) (S : Sto) : run 82 j 177 [a0, a1] [vR 13 x0, vR 13 x1] S = bU (call 83 0 [vR 13 x1, vR 13 x0] S) (fun S' => run 82 j 180 [a0, a1] [] S') := st_cU rfl
theorem s82_180 {j : Nat} {a1 : av} {st : List av} (q : Nat) (S : Sto) : run 82 j 180 [vR 1 q, a1] st S = run 82 j 181 [vR 1 q, a1] (vR 1 q :: st) S := st_ rfl
theorem s82_181 {j : Nat} {a0 : av} {st : List av} (q : Nat) (S : Sto) : run 82 j 181 [a0, vR 1 q] st S = run 82 j 182 [a0, vR 1 q] (vR 1 q :: st) S := st_ rfl
theorem s82_182 {j : Nat} {a0 : av} {a1 : av} {st : List av} (q : Nat) (S : Sto) : run 82 j 182 [a0, a1] (vR 1 q :: st) S = run 82 j 185 [a0, a1] (vI (S.1 1 q 18) :: st) S := st_ rfl
theorem s82_185 {j : Nat} {a0 : av} {a1 : av} {st : List av} (q : Nat) (x : Int32) (S : Sto) : run 82 j 185 [a0, a1] (vI x :: vR 1 q :: st) S = run 82 j 188 [a0, a1] st (uI S 1 q 18 x) := st_ rfl
theorem s82_188 {j : Nat} {a1 : av} {st : List av} (q : Nat) (S : Sto) : run 82 j 188 [vR 1 q, a1] st S = run 82 j 189 [vR 1 q, a1] (vR 1 q :: st) S := st_ rfl
theorem s82_189 {j : Nat} {a0 : av} {st : List av} (q : Nat) (S : Sto) : run 82 j 189 [a0, vR 1 q] st S = run 82 j 190 [a0, vR 1 q] (vR 1 q :: st) S := st_ rfl
theorem s82_190 {j : Nat} {a0 : av} {a1 : av} {st : List av} (q : Nat) (S : Sto) : run 82 j 190 [a0, a1] (vR 1 q :: st) S = run 82 j 193 [a0, a1] (vI (S.1 1 q 19) :: st) S := st_ rfl
theorem s82_193 {j : Nat} {a0 : av} {a1 : av} {st : List av} (q : Nat) (x : Int32) (S : Sto) : run 82 j 193 [a0, a1] (vI x :: vR 1 q :: st) S = run 82 j 196 [a0, a1] st (uI S 1 q 19 x) := st_ rfl
theorem s82_196 {j : Nat} {a0 : av} {a1 : av} (S : Sto) : run 82 j 196 [a0, a1] [] S = some (none, S) := st_r rfl
/-! 83 Town_copyAll -/
theorem s83_0 {j : Nat} {a1 : av} {st : List av} (t q : Nat) (S : Sto) (ht : Nat.beq t 103 = false) : run 83 j 0 [vR t q, a1] st S = run 83 j 1 [vR t q, a1] (vR t q :: st) S := st_aload (i := 0) ht rfl rfl
theorem s83_1 {j : Nat} {a0 : av} {a1 : av} {st : List av} (S : Sto) : run 83 j 1 [a0, a1] st S = run 83 j 2 [a0, a1] (vI 0 :: st) S := st_ rfl
theorem s83_2 {j : Nat} {a0 : av} {st : List av} (t q : Nat) (S : Sto) (ht : Nat.beq t 103 = false) : run 83 j 2 [a0, vR t q] st S = run 83 j 3 [a0, vR t q] (vR t q :: st) S := st_aload (i := 1) ht rfl rfl
theorem s83_3 {j : Nat} {a0 : av} {a1 : av} {st : List av} (S : Sto) : run 83 j 3 [a0, a1] st S = run 83 j 4 [a0, a1] (vI 0 :: st) S := st_ rfl
theorem s83_4 {j : Nat} {a1 : av} {st : List av} (t q : Nat) (S : Sto) (ht : Nat.beq t 103 = false) : run 83 j 4 [vR t q, a1] st S = run 83 j 5 [vR t q, a1] (vR t q :: st) S := st_aload (i := 0) ht rfl rfl
theorem s83_5 {j : Nat} {a0 : av} {a1 : av} {st : List av} (t q : Nat) (S : Sto) (n : Nat) (hn : aln S t q = some n) : run 83 j 5 [a0, a1] (vR t q :: st) S = run 83 j 6 [a0, a1] (vI (Int32.ofNat n) :: st) S := st_aln hn rfl
theorem s83_6 {j : Nat} {a0 : av} {st : List av} (t q : Nat) (S : Sto) (ht : Nat.beq t 103 = false) : run 83 j 6 [a0, vR t q] st S = run 83 j 7 [a0, vR t q] (vR t q :: st) S := st_aload (i := 1) ht rfl rfl
theorem s83_7 {j : Nat} {a0 : av} {a1 : av} {st : List av} (t q : Nat) (S : Sto) (n : Nat) (hn : aln S t q = some n) : run 83 j 7 [a0, a1] (vR t q :: st) S = run 83 j 8 [a0, a1] (vI (Int32.ofNat n) :: st) S := st_aln hn rfl
theorem s83_8 {j : Nat} {a0 : av} {a1 : av} (x0 : Int32) (x1 : Int32) (x2 : Int32) (tx3 x3 : Nat) (x4 : Int32) (tx5 x5 : Nat) (S : Sto) : run 83 j 8 [a0, a1] [vI x0, vI x1, vI x2, vR tx3 x3, vI x4, vR tx5 x5] S = run 83 j 11 [a0, a1] (vI (if x0 < x1 then x0 else x1) :: [vI x2, vR tx3 x3, vI x4, vR tx5 x5]) S := st_ rfl
theorem s83_11 {j : Nat} {a0 : av} {a1 : av} (n dp sp : Int32) (t1 q1 t0 q0 n0 n1 : Nat) (S : Sto) (hk0 : knd t0 = (1, n0, [])) (hk1 : knd t1 = (1, n1, [])) : run 83 j 11 [a0, a1] [vI n, vI dp, vR t1 q1, vI sp, vR t0 q0] S = if ¬ sp < 0 ∧ ¬ dp < 0 ∧ ¬ n < 0 ∧ sp.toNatClampNeg + n.toNatClampNeg ≤ n0 ∧ dp.toNatClampNeg + n.toNatClampNeg ≤ n1 then run 83 j 14 [a0, a1] [] (uA S t1 q1 (va_cpy (S.1 t0 q0) (S.1 t1 q1) sp.toNatClampNeg dp.toNatClampNeg n.toNatClampNeg)) else none := st_acp hk0 hk1 rfl
theorem s83_14 {j : Nat} {a0 : av} {a1 : av} (S : Sto) : run 83 j 14 [a0, a1] [] S = some (none, S) := st_r rfl
/-! 84 Town_worthOfSet -/
theorem s84_0 {j : Nat} {a0 : av} {a1 : av} {a2 : av} {a3 : av} {st : List av} (S : Sto) : run 84 j 0 [a0, a1, a2, a3] st S = run 84 j 1 [a0, a1, a2, a3] (vI 0 :: st) S := st_ rfl
theorem s84_1 {j : Nat} {a0 : av} {a1 : av} {a2 : av} {a3 : av} {st : List av} (x : Int32) (S : Sto) : run 84 j 1 [a0, a1, a2, a3] (vI x :: st) S = run 84 j 2 [a0, a1, vI x, a3] st S := st_ rfl
theorem s84_2 {j : Nat} {a0 : av} {a1 : av} {a2 : av} {a3 : av} {st : List av} (S : Sto) : run 84 j 2 [a0, a1, a2, a3] st S = run 84 j 3 [a0, a1, a2, a3] (vI 0 :: st) S := st_ rfl
theorem s84_3 {j : Nat} {a0 : av} {a1 : av} {a2 : av} {a3 : av} {st : List av} (x : Int32) (S : Sto) : run 84 j 3 [a0, a1, a2, a3] (vI x :: st) S = run 84 j 4 [a0, a1, a2, vI x] st S := st_ rfl
theorem s84_4 {j : Nat} {a0 : av} {a1 : av} {a2 : av} {st : List av} (x : Int32) (S : Sto) : run 84 j 4 [a0, a1, a2, vI x] st S = run 84 j 5 [a0, a1, a2, vI x] (vI x :: st) S := st_ rfl
theorem s84_5 {j : Nat} {a1 : av} {a2 : av} {a3 : av} {st : List av} (q : Nat) (S : Sto) : run 84 j 5 [vR 1 q, a1, a2, a3] st S = run 84 j 6 [vR 1 q, a1, a2, a3] (vR 1 q :: st) S := st_ rfl
theorem s84_6 {j : Nat} {a0 : av} {a1 : av} {a2 : av} {a3 : av} {st : List av} (q : Nat) (S : Sto) : run 84 j 6 [a0, a1, a2, a3] (vR 1 q :: st) S = run 84 j 9 [a0, a1, a2, a3] (vI (S.1 1 q 10) :: st) S := st_ rfl
theorem s84_9 {j : Nat} {a0 : av} {a1 : av} {a2 : av} {a3 : av} {st : List av} (x y : Int32) (S : Sto) : run 84 j 9 [a0, a1, a2, a3] (vI y :: vI x :: st) S = if y ≤ x then run 84 j 35 [a0, a1, a2, a3] st S else run 84 j 12 [a0, a1, a2, a3] st S := st_ite rfl
theorem s84_12 {j : Nat} {a0 : av} {a2 : av} {a3 : av} {st : List av} (x : Int32) (S : Sto) : run 84 j 12 [a0, vI x, a2, a3] st S = run 84 j 13 [a0, vI x, a2, a3] (vI x :: st) S := st_ rfl
theorem s84_13 {j : Nat} {a0 : av} {a1 : av} {a2 : av} {st : List av} (x : Int32) (S : Sto) : run 84 j 13 [a0, a1, a2, vI x] st S = run 84 j 14 [a0, a1, a2, vI x] (vI x :: st) S := st_ rfl
theorem s84_14 {j : Nat} {a0 : av} {a1 : av} {a2 : av} {a3 : av} (x0 : Int32) (x1 : Int32) (S : Sto) : run 84 j 14 [a0, a1, a2, a3] [vI x0, vI x1] S = bV (call 96 0 [vI x1, vI x0] S) (fun v S' => run 84 j 17 [a0, a1, a2, a3] (v :: []) S') := st_cV rfl
theorem s84_17 {j : Nat} {a0 : av} {a1 : av} {a2 : av} {a3 : av} {st : List av} (x : Int32) (S : Sto) : run 84 j 17 [a0, a1, a2, a3] (vI x :: st) S = if x = 0 then run 84 j 29 [a0, a1, a2, a3] st S else run 84 j 20 [a0, a1, a2, a3] st S := st_ite rfl
theorem s84_20 {j : Nat} {a0 : av} {a1 : av} {a3 : av} {st : List av} (x : Int32) (S : Sto) : run 84 j 20 [a0, a1, vI x, a3] st S = run 84 j 21 [a0, a1, vI x, a3] (vI x :: st) S := st_ rfl
theorem s84_21 {j : Nat} {a1 : av} {a2 : av} {a3 : av} {st : List av} (q : Nat) (S : Sto) : run 84 j 21 [vR 1 q, a1, a2, a3] st S = run 84 j 22 [vR 1 q, a1, a2, a3] (vR 1 q :: st) S := st_ rfl
theorem s84_22 {j : Nat} {a0 : av} {a1 : av} {a2 : av} {a3 : av} {st : List av} (q : Nat) (S : Sto) : run 84 j 22 [a0, a1, a2, a3] (vR 1 q :: st) S = run 84 j 25 [a0, a1, a2, a3] (vR 11 q :: st) S := st_ rfl
theorem s84_25 {j : Nat} {a0 : av} {a1 : av} {a2 : av} {st : List av} (x : Int32) (S : Sto) : run 84 j 25 [a0, a1, a2, vI x] st S = run 84 j 26 [a0, a1, a2, vI x] (vI x :: st) S := st_ rfl
theorem s84_26 {j : Nat} {a0 : av} {a1 : av} {a2 : av} {a3 : av} {st : List av} (x : Int32) (q : Nat) (S : Sto) : run 84 j 26 [a0, a1, a2, a3] (vI x :: vR 11 q :: st) S = if ib x 12 then run 84 j 27 [a0, a1, a2, a3] (vI (S.1 11 q x.toNatClampNeg) :: st) S else none := st_itN rfl
theorem s84_27 {j : Nat} {a0 : av} {a1 : av} {a2 : av} {a3 : av} {st : List av} (x y : Int32) (S : Sto) : run 84 j 27 [a0, a1, a2, a3] (vI y :: vI x :: st) S = run 84 j 28 [a0, a1, a2, a3] (vI (x + y) :: st) S := st_ rfl
theorem s84_28 {j : Nat} {a0 : av} {a1 : av} {a2 : av} {a3 : av} {st : List av} (x : Int32) (S : Sto) : run 84 j 28 [a0, a1, a2, a3] (vI x :: st) S = run 84 j 29 [a0, a1, vI x, a3] st S := st_ rfl
theorem s84_29 {j : Nat} {a0 : av} {a1 : av} {a2 : av} {st : List av} (x : Int32) (S : Sto) : run 84 j 29 [a0, a1, a2, vI x] st S = run 84 j 32 [a0, a1, a2, vI (x + 1)] st S := st_ rfl
theorem s84_32 {j : Nat} {a0 : av} {a1 : av} {a2 : av} {a3 : av} {st : List av} (S : Sto) : run 84 j 32 [a0, a1, a2, a3] st S = run 84 j 4 [a0, a1, a2, a3] st S := st_ rfl
theorem s84_35 {j : Nat} {a0 : av} {a1 : av} {a3 : av} {st : List av} (x : Int32) (S : Sto) : run 84 j 35 [a0, a1, vI x, a3] st S = run 84 j 36 [a0, a1, vI x, a3] (vI x :: st) S := st_ rfl
theorem s84_36 {j : Nat} {a0 : av} {a1 : av} {a2 : av} {a3 : av} (x : Int32) (S : Sto) : run 84 j 36 [a0, a1, a2, a3] [vI x] S = some (some (vI x), S) := st_r rfl
/-! 85 Town_oddsCount -/
theorem s85_0 {j : Nat} {a0 : av} {a1 : av} {a2 : av} {st : List av} (S : Sto) : run 85 j 0 [a0, a1, a2] st S = run 85 j 1 [a0, a1, a2] (vI 0 :: st) S := st_ rfl
theorem s85_1 {j : Nat} {a0 : av} {a1 : av} {a2 : av} {st : List av} (x : Int32) (S : Sto) : run 85 j 1 [a0, a1, a2] (vI x :: st) S = run 85 j 2 [a0, vI x, a2] st S := st_ rfl
theorem s85_2 {j : Nat} {a0 : av} {a1 : av} {a2 : av} {st : List av} (S : Sto) : run 85 j 2 [a0, a1, a2] st S = run 85 j 3 [a0, a1, a2] (vI 0 :: st) S := st_ rfl
theorem s85_3 {j : Nat} {a0 : av} {a1 : av} {a2 : av} {st : List av} (x : Int32) (S : Sto) : run 85 j 3 [a0, a1, a2] (vI x :: st) S = run 85 j 4 [a0, a1, vI x] st S := st_ rfl
theorem s85_4 {j : Nat} {a0 : av} {a1 : av} {st : List av} (x : Int32) (S : Sto) : run 85 j 4 [a0, a1, vI x] st S = run 85 j 5 [a0, a1, vI x] (vI x :: st) S := st_ rfl
theorem s85_5 {j : Nat} {a1 : av} {a2 : av} {st : List av} (q : Nat) (S : Sto) : run 85 j 5 [vR 1 q, a1, a2] st S = run 85 j 6 [vR 1 q, a1, a2] (vR 1 q :: st) S := st_ rfl
theorem s85_6 {j : Nat} {a0 : av} {a1 : av} {a2 : av} {st : List av} (q : Nat) (S : Sto) : run 85 j 6 [a0, a1, a2] (vR 1 q :: st) S = run 85 j 9 [a0, a1, a2] (vI (S.1 1 q 0) :: st) S := st_ rfl
theorem s85_9 {j : Nat} {a0 : av} {a1 : av} {a2 : av} {st : List av} (x y : Int32) (S : Sto) : run 85 j 9 [a0, a1, a2] (vI y :: vI x :: st) S = if y ≤ x then run 85 j 30 [a0, a1, a2] st S else run 85 j 12 [a0, a1, a2] st S := st_ite rfl
theorem s85_12 {j : Nat} {a0 : av} {a2 : av} {st : List av} (x : Int32) (S : Sto) : run 85 j 12 [a0, vI x, a2] st S = run 85 j 13 [a0, vI x, a2] (vI x :: st) S := st_ rfl
theorem s85_13 {j : Nat} {a1 : av} {a2 : av} {st : List av} (q : Nat) (S : Sto) : run 85 j 13 [vR 1 q, a1, a2] st S = run 85 j 14 [vR 1 q, a1, a2] (vR 1 q :: st) S := st_ rfl
theorem s85_14 {j : Nat} {a0 : av} {a1 : av} {a2 : av} {st : List av} (q : Nat) (S : Sto) : run 85 j 14 [a0, a1, a2] (vR 1 q :: st) S = run 85 j 17 [a0, a1, a2] (vR 4 q :: st) S := st_ rfl
theorem s85_17 {j : Nat} {a0 : av} {a1 : av} {st : List av} (x : Int32) (S : Sto) : run 85 j 17 [a0, a1, vI x] st S = run 85 j 18 [a0, a1, vI x] (vI x :: st) S := st_ rfl
theorem s85_18 {j : Nat} {a0 : av} {a1 : av} {a2 : av} {st : List av} (x : Int32) (q : Nat) (S : Sto) : run 85 j 18 [a0, a1, a2] (vI x :: vR 4 q :: st) S = if ib x 12 then run 85 j 19 [a0, a1, a2] (vI (S.1 4 q x.toNatClampNeg) :: st) S else none := st_itN rfl
theorem s85_19 {j : Nat} {a0 : av} {a1 : av} {a2 : av} (x0 : Int32) (x1 : Int32) (S : Sto) : run 85 j 19 [a0, a1, a2] [vI x0, vI x1] S = bV (call 270 0 [vI x0] S) (fun v S' => run 85 j 22 [a0, a1, a2] (v :: [vI x1]) S') := st_cV rfl
theorem s85_22 {j : Nat} {a0 : av} {a1 : av} {a2 : av} {st : List av} (x y : Int32) (S : Sto) : run 85 j 22 [a0, a1, a2] (vI y :: vI x :: st) S = run 85 j 23 [a0, a1, a2] (vI (x + y) :: st) S := st_ rfl
theorem s85_23 {j : Nat} {a0 : av} {a1 : av} {a2 : av} {st : List av} (x : Int32) (S : Sto) : run 85 j 23 [a0, a1, a2] (vI x :: st) S = run 85 j 24 [a0, vI x, a2] st S := st_ rfl
theorem s85_24 {j : Nat} {a0 : av} {a1 : av} {st : List av} (x : Int32) (S : Sto) : run 85 j 24 [a0, a1, vI x] st S = run 85 j 27 [a0, a1, vI (x + 1)] st S := st_ rfl
theorem s85_27 {j : Nat} {a0 : av} {a1 : av} {a2 : av} {st : List av} (S : Sto) : run 85 j 27 [a0, a1, a2] st S = run 85 j 4 [a0, a1, a2] st S := st_ rfl
theorem s85_30 {j : Nat} {a0 : av} {a2 : av} {st : List av} (x : Int32) (S : Sto) : run 85 j 30 [a0, vI x, a2] st S = run 85 j 31 [a0, vI x, a2] (vI x :: st) S := st_ rfl
theorem s85_31 {j : Nat} {a0 : av} {a1 : av} {a2 : av} {st : List av} (S : Sto) : run 85 j 31 [a0, a1, a2] st S = run 85 j 32 [a0, a1, a2] (vI 2 :: st) S := st_ rfl
theorem s85_32 {j : Nat} {a0 : av} {a1 : av} {a2 : av} {st : List av} (x y : Int32) (S : Sto) : run 85 j 32 [a0, a1, a2] (vI y :: vI x :: st) S = if y = 0 then none else run 85 j 33 [a0, a1, a2] (vI (x / y) :: st) S := st_itn rfl
theorem s85_33 {j : Nat} {a0 : av} {a1 : av} {a2 : av} (x : Int32) (S : Sto) : run 85 j 33 [a0, a1, a2] [vI x] S = some (some (vI x), S) := st_r rfl
