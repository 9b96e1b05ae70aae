/-! 287 LAW_law -/
set_option maxRecDepth 100000 in
theorem s287_18 {j : Nat} {a0 : av} {a1 : av} {a2 : av} {st : List av} (x : Int32) (S : Sto) : run 287 j 18 [a0, a1, a2, vI x] st S = run 287 j 19 [a0, a1, a2, vI x] (vI x :: st) S := st_ rfl
set_option maxRecDepth 100000 in
theorem s287_19 {j : Nat} {a1 : av} {a2 : av} {a3 : av} {st : List av} (q : Nat) (S : Sto) : run 287 j 19 [vR 102 q, a1, a2, a3] st S = run 287 j 20 [vR 102 q, a1, a2, a3] (vR 102 q :: st) S := st_ rfl
set_option maxRecDepth 100000 in
theorem s287_20 {j : Nat} {a0 : av} {a1 : av} {a2 : av} {a3 : av} {st : List av} (q : Nat) (S : Sto) : run 287 j 20 [a0, a1, a2, a3] (vR 102 q :: st) S = run 287 j 21 [a0, a1, a2, a3] (vI (Int32.ofNat (S.1 103 0 0).toNatClampNeg) :: st) S := st_ rfl
set_option maxRecDepth 100000 in
theorem s287_21 {j : Nat} {a0 : av} {a1 : av} {a2 : av} {a3 : av} {st : List av} (S : Sto) : run 287 j 21 [a0, a1, a2, a3] st S = run 287 j 23 [a0, a1, a2, a3] (vI 6 :: st) S := st_ rfl
set_option maxRecDepth 100000 in
theorem s287_23 {j : Nat} {a0 : av} {a1 : av} {a2 : av} {a3 : av} {st : List av} (x y : Int32) (S : Sto) : run 287 j 23 [a0, a1, a2, a3] (vI y :: vI x :: st) S = run 287 j 24 [a0, a1, a2, a3] (vI (x - y) :: st) S := st_ rfl
set_option maxRecDepth 100000 in
theorem s287_24 {j : Nat} {a0 : av} {a1 : av} {a2 : av} {a3 : av} {st : List av} (x y : Int32) (S : Sto) : run 287 j 24 [a0, a1, a2, a3] (vI y :: vI x :: st) S = if y < x then run 287 j 1476 [a0, a1, a2, a3] st S else run 287 j 27 [a0, a1, a2, a3] st S := st_ite rfl
set_option maxRecDepth 100000 in
theorem s287_27 {j : Nat} {a1 : av} {a2 : av} {a3 : av} {st : List av} (q : Nat) (S : Sto) : run 287 j 27 [vR 102 q, a1, a2, a3] st S = run 287 j 28 [vR 102 q, a1, a2, a3] (vR 102 q :: st) S := st_ rfl
set_option maxRecDepth 100000 in
theorem s287_28 {j : Nat} {a0 : av} {a1 : av} {a2 : av} {st : List av} (x : Int32) (S : Sto) : run 287 j 28 [a0, a1, a2, vI x] st S = run 287 j 29 [a0, a1, a2, vI x] (vI x :: st) S := st_ rfl
set_option maxRecDepth 100000 in
theorem s287_29 {j : Nat} {a0 : av} {a1 : av} {a2 : av} {a3 : av} {st : List av} (x : Int32) (q : Nat) (S : Sto) : run 287 j 29 [a0, a1, a2, a3] (vI x :: vR 102 q :: st) S = if ib x (S.1 103 0 0).toNatClampNeg then run 287 j 30 [a0, a1, a2, a3] (vI (S.1 102 q x.toNatClampNeg) :: st) S else none := st_itN rfl
set_option maxRecDepth 100000 in
theorem s287_30 {j : Nat} {a0 : av} {a1 : av} {a2 : av} {a3 : av} {st : List av} (S : Sto) : run 287 j 30 [a0, a1, a2, a3] st S = run 287 j 32 [a0, a1, a2, a3] (vI 63 :: st) S := st_ rfl
set_option maxRecDepth 100000 in
theorem s287_32 {j : Nat} {a0 : av} {a1 : av} {a2 : av} {a3 : av} {st : List av} (x y : Int32) (S : Sto) : run 287 j 32 [a0, a1, a2, a3] (vI y :: vI x :: st) S = run 287 j 33 [a0, a1, a2, a3] (vI (x &&& y) :: st) S := st_ rfl
set_option maxRecDepth 100000 in
theorem s287_33 {j : Nat} {a0 : av} {a1 : av} {a2 : av} {a3 : av} {st : List av} (x : Int32) (S : Sto) : run 287 j 33 [a0, a1, a2, a3] (vI x :: st) S = if x.toInt = 0 then run 287 j 200 [a0, a1, a2, a3] st S else if x.toInt = 1 then run 287 j 223 [a0, a1, a2, a3] st S else if x.toInt = 2 then run 287 j 266 [a0, a1, a2, a3] st S else if x.toInt = 3 then run 287 j 325 [a0, a1, a2, a3] st S else if x.toInt = 4 then run 287 j 358 [a0, a1, a2, a3] st S else if x.toInt = 5 then run 287 j 401 [a0, a1, a2, a3] st S else if x.toInt = 6 then run 287 j 454 [a0, a1, a2, a3] st S else if x.toInt = 7 then run 287 j 517 [a0, a1, a2, a3] st S else if x.toInt = 8 then run 287 j 540 [a0, a1, a2, a3] st S else if x.toInt = 9 then run 287 j 553 [a0, a1, a2, a3] st S else if x.toInt = 10 then run 287 j 586 [a0, a1, a2, a3] st S else if x.toInt = 11 then run 287 j 629 [a0, a1, a2, a3] st S else if x.toInt = 12 then run 287 j 662 [a0, a1, a2, a3] st S else if x.toInt = 13 then run 287 j 695 [a0, a1, a2, a3] st S else if x.toInt = 14 then run 287 j 748 [a0, a1, a2, a3] st S else if x.toInt = 15 then run 287 j 791 [a0, a1, a2, a3] st S else if x.toInt = 16 then run 287 j 824 [a0, a1, a2, a3] st S else if x.toInt = 17 then run 287 j 857 [a0, a1, a2, a3] st S else if x.toInt = 18 then run 287 j 890 [a0, a1, a2, a3] st S else if x.toInt = 19 then run 287 j 913 [a0, a1, a2, a3] st S else if x.toInt = 20 then run 287 j 946 [a0, a1, a2, a3] st S else if x.toInt = 21 then run 287 j 979 [a0, a1, a2, a3] st S else if x.toInt = 22 then run 287 j 1012 [a0, a1, a2, a3] st S else if x.toInt = 23 then run 287 j 1045 [a0, a1, a2, a3] st S else if x.toInt = 24 then run 287 j 1068 [a0, a1, a2, a3] st S else if x.toInt = 25 then run 287 j 1111 [a0, a1, a2, a3] st S else if x.toInt = 26 then run 287 j 1124 [a0, a1, a2, a3] st S else if x.toInt = 27 then run 287 j 1137 [a0, a1, a2, a3] st S else if x.toInt = 28 then run 287 j 1180 [a0, a1, a2, a3] st S else if x.toInt = 29 then run 287 j 1233 [a0, a1, a2, a3] st S else if x.toInt = 30 then run 287 j 1246 [a0, a1, a2, a3] st S else if x.toInt = 31 then run 287 j 1269 [a0, a1, a2, a3] st S else if x.toInt = 32 then run 287 j 1292 [a0, a1, a2, a3] st S else if x.toInt = 33 then run 287 j 1325 [a0, a1, a2, a3] st S else if x.toInt = 34 then run 287 j 1378 [a0, a1, a2, a3] st S else if x.toInt = 35 then run 287 j 1401 [a0, a1, a2, a3] st S else if x.toInt = 36 then run 287 j 1424 [a0, a1, a2, a3] st S else if x.toInt = 37 then run 287 j 1447 [a0, a1, a2, a3] st S else run 287 j 1470 [a0, a1, a2, a3] st S := (st_swR (lo := 0) (l := [167, 190, 233, 292, 325, 368, 421, 484, 507, 520, 553, 596, 629, 662, 715, 758, 791, 824, 857, 880, 913, 946, 979, 1012, 1035, 1078, 1091, 1104, 1147, 1200, 1213, 1236, 1259, 1292, 1345, 1368, 1391, 1414]) (d := 1437) rfl).trans rfl
set_option maxRecDepth 100000 in
theorem s287_200 {j : Nat} {a0 : av} {a2 : av} {a3 : av} {st : List av} (q : Nat) (S : Sto) : run 287 j 200 [a0, vR 0 q, a2, a3] st S = run 287 j 201 [a0, vR 0 q, a2, a3] (vR 0 q :: st) S := st_ rfl
set_option maxRecDepth 100000 in
theorem s287_201 {j : Nat} {a1 : av} {a2 : av} {a3 : av} {st : List av} (q : Nat) (S : Sto) : run 287 j 201 [vR 102 q, a1, a2, a3] st S = run 287 j 202 [vR 102 q, a1, a2, a3] (vR 102 q :: st) S := st_ rfl
set_option maxRecDepth 100000 in
theorem s287_202 {j : Nat} {a0 : av} {a1 : av} {a2 : av} {st : List av} (x : Int32) (S : Sto) : run 287 j 202 [a0, a1, a2, vI x] st S = run 287 j 203 [a0, a1, a2, vI x] (vI x :: st) S := st_ rfl
set_option maxRecDepth 100000 in
theorem s287_203 {j : Nat} {a0 : av} {a1 : av} {a2 : av} {a3 : av} {st : List av} (S : Sto) : run 287 j 203 [a0, a1, a2, a3] st S = run 287 j 204 [a0, a1, a2, a3] (vI 1 :: st) S := st_ rfl
set_option maxRecDepth 100000 in
theorem s287_204 {j : Nat} {a0 : av} {a1 : av} {a2 : av} {a3 : av} {st : List av} (x y : Int32) (S : Sto) : run 287 j 204 [a0, a1, a2, a3] (vI y :: vI x :: st) S = run 287 j 205 [a0, a1, a2, a3] (vI (x + y) :: st) S := st_ rfl
set_option maxRecDepth 100000 in
theorem s287_205 {j : Nat} {a0 : av} {a1 : av} {a2 : av} {a3 : av} {st : List av} (x : Int32) (q : Nat) (S : Sto) : run 287 j 205 [a0, a1, a2, a3] (vI x :: vR 102 q :: st) S = if ib x (S.1 103 0 0).toNatClampNeg then run 287 j 206 [a0, a1, a2, a3] (vI (S.1 102 q x.toNatClampNeg) :: st) S else none := st_itN rfl
set_option maxRecDepth 100000 in
theorem s287_206 {j : Nat} {a0 : av} {a1 : av} {a2 : av} {a3 : av} (x0 : Int32) (x1 : Nat) (S : Sto) : run 287 j 206 [a0, a1, a2, a3] [vI x0, vR 0 x1] S = bV (call 92 0 [vR 0 x1, vI x0] S) (fun v S' => run 287 j 209 [a0, a1, a2, a3] (v :: []) S') := st_cV rfl
set_option maxRecDepth 100000 in
theorem s287_209 {j : Nat} {a0 : av} {a1 : av} {a3 : av} {st : List av} (q : Nat) (S : Sto) : run 287 j 209 [a0, a1, vR 50 q, a3] st S = run 287 j 210 [a0, a1, vR 50 q, a3] (vR 50 q :: st) S := st_ rfl
set_option maxRecDepth 100000 in
theorem s287_210 {j : Nat} {a1 : av} {a2 : av} {a3 : av} {st : List av} (q : Nat) (S : Sto) : run 287 j 210 [vR 102 q, a1, a2, a3] st S = run 287 j 211 [vR 102 q, a1, a2, a3] (vR 102 q :: st) S := st_ rfl
set_option maxRecDepth 100000 in
theorem s287_211 {j : Nat} {a0 : av} {a1 : av} {a2 : av} {st : List av} (x : Int32) (S : Sto) : run 287 j 211 [a0, a1, a2, vI x] st S = run 287 j 212 [a0, a1, a2, vI x] (vI x :: st) S := st_ rfl
set_option maxRecDepth 100000 in
theorem s287_212 {j : Nat} {a0 : av} {a1 : av} {a2 : av} {a3 : av} {st : List av} (S : Sto) : run 287 j 212 [a0, a1, a2, a3] st S = run 287 j 213 [a0, a1, a2, a3] (vI 1 :: st) S := st_ rfl
set_option maxRecDepth 100000 in
theorem s287_213 {j : Nat} {a0 : av} {a1 : av} {a2 : av} {a3 : av} {st : List av} (x y : Int32) (S : Sto) : run 287 j 213 [a0, a1, a2, a3] (vI y :: vI x :: st) S = run 287 j 214 [a0, a1, a2, a3] (vI (x + y) :: st) S := st_ rfl
set_option maxRecDepth 100000 in
theorem s287_214 {j : Nat} {a0 : av} {a1 : av} {a2 : av} {a3 : av} {st : List av} (x : Int32) (q : Nat) (S : Sto) : run 287 j 214 [a0, a1, a2, a3] (vI x :: vR 102 q :: st) S = if ib x (S.1 103 0 0).toNatClampNeg then run 287 j 215 [a0, a1, a2, a3] (vI (S.1 102 q x.toNatClampNeg) :: st) S else none := st_itN rfl
set_option maxRecDepth 100000 in
theorem s287_215 {j : Nat} {a0 : av} {a1 : av} {a2 : av} {a3 : av} (x0 : Int32) (x1 : Nat) (x2 : Int32) (S : Sto) : run 287 j 215 [a0, a1, a2, a3] [vI x0, vR 50 x1, vI x2] S = bV (call 136 0 [vR 50 x1, vI x0] S) (fun v S' => run 287 j 218 [a0, a1, a2, a3] (v :: [vI x2]) S') := st_cV rfl
set_option maxRecDepth 100000 in
theorem s287_218 {j : Nat} {a0 : av} {a1 : av} {a2 : av} {a3 : av} {st : List av} (x y : Int32) (S : Sto) : run 287 j 218 [a0, a1, a2, a3] (vI y :: vI x :: st) S = if x = y then run 287 j 1470 [a0, a1, a2, a3] st S else run 287 j 221 [a0, a1, a2, a3] st S := st_ite rfl
set_option maxRecDepth 100000 in
theorem s287_221 {j : Nat} {a0 : av} {a1 : av} {a2 : av} {a3 : av} {st : List av} (S : Sto) : run 287 j 221 [a0, a1, a2, a3] st S = run 287 j 222 [a0, a1, a2, a3] (vI 0 :: st) S := st_ rfl
set_option maxRecDepth 100000 in
theorem s287_222 {j : Nat} {a0 : av} {a1 : av} {a2 : av} {a3 : av} (x : Int32) (S : Sto) : run 287 j 222 [a0, a1, a2, a3] [vI x] S = if vp_nar .boolean x = x then some (some (vI x), S) else none := st_rb rfl
set_option maxRecDepth 100000 in
theorem s287_223 {j : Nat} {a0 : av} {a2 : av} {a3 : av} {st : List av} (q : Nat) (S : Sto) : run 287 j 223 [a0, vR 0 q, a2, a3] st S = run 287 j 224 [a0, vR 0 q, a2, a3] (vR 0 q :: st) S := st_ rfl
set_option maxRecDepth 100000 in
theorem s287_224 {j : Nat} {a1 : av} {a2 : av} {a3 : av} {st : List av} (q : Nat) (S : Sto) : run 287 j 224 [vR 102 q, a1, a2, a3] st S = run 287 j 225 [vR 102 q, a1, a2, a3] (vR 102 q :: st) S := st_ rfl
set_option maxRecDepth 100000 in
theorem s287_225 {j : Nat} {a0 : av} {a1 : av} {a2 : av} {st : List av} (x : Int32) (S : Sto) : run 287 j 225 [a0, a1, a2, vI x] st S = run 287 j 226 [a0, a1, a2, vI x] (vI x :: st) S := st_ rfl
set_option maxRecDepth 100000 in
theorem s287_226 {j : Nat} {a0 : av} {a1 : av} {a2 : av} {a3 : av} {st : List av} (S : Sto) : run 287 j 226 [a0, a1, a2, a3] st S = run 287 j 227 [a0, a1, a2, a3] (vI 1 :: st) S := st_ rfl
set_option maxRecDepth 100000 in
theorem s287_227 {j : Nat} {a0 : av} {a1 : av} {a2 : av} {a3 : av} {st : List av} (x y : Int32) (S : Sto) : run 287 j 227 [a0, a1, a2, a3] (vI y :: vI x :: st) S = run 287 j 228 [a0, a1, a2, a3] (vI (x + y) :: st) S := st_ rfl
set_option maxRecDepth 100000 in
theorem s287_228 {j : Nat} {a0 : av} {a1 : av} {a2 : av} {a3 : av} {st : List av} (x : Int32) (q : Nat) (S : Sto) : run 287 j 228 [a0, a1, a2, a3] (vI x :: vR 102 q :: st) S = if ib x (S.1 103 0 0).toNatClampNeg then run 287 j 229 [a0, a1, a2, a3] (vI (S.1 102 q x.toNatClampNeg) :: st) S else none := st_itN rfl
set_option maxRecDepth 100000 in
theorem s287_229 {j : Nat} {a1 : av} {a2 : av} {a3 : av} {st : List av} (q : Nat) (S : Sto) : run 287 j 229 [vR 102 q, a1, a2, a3] st S = run 287 j 230 [vR 102 q, a1, a2, a3] (vR 102 q :: st) S := st_ rfl
set_option maxRecDepth 100000 in
theorem s287_230 {j : Nat} {a0 : av} {a1 : av} {a2 : av} {st : List av} (x : Int32) (S : Sto) : run 287 j 230 [a0, a1, a2, vI x] st S = run 287 j 231 [a0, a1, a2, vI x] (vI x :: st) S := st_ rfl
set_option maxRecDepth 100000 in
theorem s287_231 {j : Nat} {a0 : av} {a1 : av} {a2 : av} {a3 : av} {st : List av} (S : Sto) : run 287 j 231 [a0, a1, a2, a3] st S = run 287 j 232 [a0, a1, a2, a3] (vI 2 :: st) S := st_ rfl
set_option maxRecDepth 100000 in
theorem s287_232 {j : Nat} {a0 : av} {a1 : av} {a2 : av} {a3 : av} {st : List av} (x y : Int32) (S : Sto) : run 287 j 232 [a0, a1, a2, a3] (vI y :: vI x :: st) S = run 287 j 233 [a0, a1, a2, a3] (vI (x + y) :: st) S := st_ rfl
set_option maxRecDepth 100000 in
theorem s287_233 {j : Nat} {a0 : av} {a1 : av} {a2 : av} {a3 : av} {st : List av} (x : Int32) (q : Nat) (S : Sto) : run 287 j 233 [a0, a1, a2, a3] (vI x :: vR 102 q :: st) S = if ib x (S.1 103 0 0).toNatClampNeg then run 287 j 234 [a0, a1, a2, a3] (vI (S.1 102 q x.toNatClampNeg) :: st) S else none := st_itN rfl
set_option maxRecDepth 100000 in
theorem s287_234 {j : Nat} {a1 : av} {a2 : av} {a3 : av} {st : List av} (q : Nat) (S : Sto) : run 287 j 234 [vR 102 q, a1, a2, a3] st S = run 287 j 235 [vR 102 q, a1, a2, a3] (vR 102 q :: st) S := st_ rfl
set_option maxRecDepth 100000 in
theorem s287_235 {j : Nat} {a0 : av} {a1 : av} {a2 : av} {st : List av} (x : Int32) (S : Sto) : run 287 j 235 [a0, a1, a2, vI x] st S = run 287 j 236 [a0, a1, a2, vI x] (vI x :: st) S := st_ rfl
set_option maxRecDepth 100000 in
theorem s287_236 {j : Nat} {a0 : av} {a1 : av} {a2 : av} {a3 : av} {st : List av} (S : Sto) : run 287 j 236 [a0, a1, a2, a3] st S = run 287 j 237 [a0, a1, a2, a3] (vI 3 :: st) S := st_ rfl
set_option maxRecDepth 100000 in
theorem s287_237 {j : Nat} {a0 : av} {a1 : av} {a2 : av} {a3 : av} {st : List av} (x y : Int32) (S : Sto) : run 287 j 237 [a0, a1, a2, a3] (vI y :: vI x :: st) S = run 287 j 238 [a0, a1, a2, a3] (vI (x + y) :: st) S := st_ rfl
set_option maxRecDepth 100000 in
theorem s287_238 {j : Nat} {a0 : av} {a1 : av} {a2 : av} {a3 : av} {st : List av} (x : Int32) (q : Nat) (S : Sto) : run 287 j 238 [a0, a1, a2, a3] (vI x :: vR 102 q :: st) S = if ib x (S.1 103 0 0).toNatClampNeg then run 287 j 239 [a0, a1, a2, a3] (vI (S.1 102 q x.toNatClampNeg) :: st) S else none := st_itN rfl
set_option maxRecDepth 100000 in
theorem s287_239 {j : Nat} {a0 : av} {a1 : av} {a2 : av} {a3 : av} (x0 : Int32) (x1 : Int32) (x2 : Int32) (x3 : Nat) (S : Sto) : run 287 j 239 [a0, a1, a2, a3] [vI x0, vI x1, vI x2, vR 0 x3] S = bV (call 94 0 [vR 0 x3, vI x2, vI x1, vI x0] S) (fun v S' => run 287 j 242 [a0, a1, a2, a3] (v :: []) S') := st_cV rfl
set_option maxRecDepth 100000 in
theorem s287_242 {j : Nat} {a0 : av} {a1 : av} {a3 : av} {st : List av} (q : Nat) (S : Sto) : run 287 j 242 [a0, a1, vR 50 q, a3] st S = run 287 j 243 [a0, a1, vR 50 q, a3] (vR 50 q :: st) S := st_ rfl
set_option maxRecDepth 100000 in
theorem s287_243 {j : Nat} {a1 : av} {a2 : av} {a3 : av} {st : List av} (q : Nat) (S : Sto) : run 287 j 243 [vR 102 q, a1, a2, a3] st S = run 287 j 244 [vR 102 q, a1, a2, a3] (vR 102 q :: st) S := st_ rfl
set_option maxRecDepth 100000 in
theorem s287_244 {j : Nat} {a0 : av} {a1 : av} {a2 : av} {st : List av} (x : Int32) (S : Sto) : run 287 j 244 [a0, a1, a2, vI x] st S = run 287 j 245 [a0, a1, a2, vI x] (vI x :: st) S := st_ rfl
set_option maxRecDepth 100000 in
theorem s287_245 {j : Nat} {a0 : av} {a1 : av} {a2 : av} {a3 : av} {st : List av} (S : Sto) : run 287 j 245 [a0, a1, a2, a3] st S = run 287 j 246 [a0, a1, a2, a3] (vI 1 :: st) S := st_ rfl
set_option maxRecDepth 100000 in
theorem s287_246 {j : Nat} {a0 : av} {a1 : av} {a2 : av} {a3 : av} {st : List av} (x y : Int32) (S : Sto) : run 287 j 246 [a0, a1, a2, a3] (vI y :: vI x :: st) S = run 287 j 247 [a0, a1, a2, a3] (vI (x + y) :: st) S := st_ rfl
set_option maxRecDepth 100000 in
theorem s287_247 {j : Nat} {a0 : av} {a1 : av} {a2 : av} {a3 : av} {st : List av} (x : Int32) (q : Nat) (S : Sto) : run 287 j 247 [a0, a1, a2, a3] (vI x :: vR 102 q :: st) S = if ib x (S.1 103 0 0).toNatClampNeg then run 287 j 248 [a0, a1, a2, a3] (vI (S.1 102 q x.toNatClampNeg) :: st) S else none := st_itN rfl
set_option maxRecDepth 100000 in
theorem s287_248 {j : Nat} {a1 : av} {a2 : av} {a3 : av} {st : List av} (q : Nat) (S : Sto) : run 287 j 248 [vR 102 q, a1, a2, a3] st S = run 287 j 249 [vR 102 q, a1, a2, a3] (vR 102 q :: st) S := st_ rfl
set_option maxRecDepth 100000 in
theorem s287_249 {j : Nat} {a0 : av} {a1 : av} {a2 : av} {st : List av} (x : Int32) (S : Sto) : run 287 j 249 [a0, a1, a2, vI x] st S = run 287 j 250 [a0, a1, a2, vI x] (vI x :: st) S := st_ rfl
set_option maxRecDepth 100000 in
theorem s287_250 {j : Nat} {a0 : av} {a1 : av} {a2 : av} {a3 : av} {st : List av} (S : Sto) : run 287 j 250 [a0, a1, a2, a3] st S = run 287 j 251 [a0, a1, a2, a3] (vI 2 :: st) S := st_ rfl
set_option maxRecDepth 100000 in
theorem s287_251 {j : Nat} {a0 : av} {a1 : av} {a2 : av} {a3 : av} {st : List av} (x y : Int32) (S : Sto) : run 287 j 251 [a0, a1, a2, a3] (vI y :: vI x :: st) S = run 287 j 252 [a0, a1, a2, a3] (vI (x + y) :: st) S := st_ rfl
set_option maxRecDepth 100000 in
theorem s287_252 {j : Nat} {a0 : av} {a1 : av} {a2 : av} {a3 : av} {st : List av} (x : Int32) (q : Nat) (S : Sto) : run 287 j 252 [a0, a1, a2, a3] (vI x :: vR 102 q :: st) S = if ib x (S.1 103 0 0).toNatClampNeg then run 287 j 253 [a0, a1, a2, a3] (vI (S.1 102 q x.toNatClampNeg) :: st) S else none := st_itN rfl
set_option maxRecDepth 100000 in
theorem s287_253 {j : Nat} {a1 : av} {a2 : av} {a3 : av} {st : List av} (q : Nat) (S : Sto) : run 287 j 253 [vR 102 q, a1, a2, a3] st S = run 287 j 254 [vR 102 q, a1, a2, a3] (vR 102 q :: st) S := st_ rfl
set_option maxRecDepth 100000 in
theorem s287_254 {j : Nat} {a0 : av} {a1 : av} {a2 : av} {st : List av} (x : Int32) (S : Sto) : run 287 j 254 [a0, a1, a2, vI x] st S = run 287 j 255 [a0, a1, a2, vI x] (vI x :: st) S := st_ rfl
set_option maxRecDepth 100000 in
theorem s287_255 {j : Nat} {a0 : av} {a1 : av} {a2 : av} {a3 : av} {st : List av} (S : Sto) : run 287 j 255 [a0, a1, a2, a3] st S = run 287 j 256 [a0, a1, a2, a3] (vI 3 :: st) S := st_ rfl
set_option maxRecDepth 100000 in
theorem s287_256 {j : Nat} {a0 : av} {a1 : av} {a2 : av} {a3 : av} {st : List av} (x y : Int32) (S : Sto) : run 287 j 256 [a0, a1, a2, a3] (vI y :: vI x :: st) S = run 287 j 257 [a0, a1, a2, a3] (vI (x + y) :: st) S := st_ rfl
set_option maxRecDepth 100000 in
theorem s287_257 {j : Nat} {a0 : av} {a1 : av} {a2 : av} {a3 : av} {st : List av} (x : Int32) (q : Nat) (S : Sto) : run 287 j 257 [a0, a1, a2, a3] (vI x :: vR 102 q :: st) S = if ib x (S.1 103 0 0).toNatClampNeg then run 287 j 258 [a0, a1, a2, a3] (vI (S.1 102 q x.toNatClampNeg) :: st) S else none := st_itN rfl
set_option maxRecDepth 100000 in
theorem s287_258 {j : Nat} {a0 : av} {a1 : av} {a2 : av} {a3 : av} (x0 : Int32) (x1 : Int32) (x2 : Int32) (x3 : Nat) (x4 : Int32) (S : Sto) : run 287 j 258 [a0, a1, a2, a3] [vI x0, vI x1, vI x2, vR 50 x3, vI x4] S = bV (call 138 0 [vR 50 x3, vI x2, vI x1, vI x0] S) (fun v S' => run 287 j 261 [a0, a1, a2, a3] (v :: [vI x4]) S') := st_cV rfl
set_option maxRecDepth 100000 in
theorem s287_261 {j : Nat} {a0 : av} {a1 : av} {a2 : av} {a3 : av} {st : List av} (x y : Int32) (S : Sto) : run 287 j 261 [a0, a1, a2, a3] (vI y :: vI x :: st) S = if x = y then run 287 j 1470 [a0, a1, a2, a3] st S else run 287 j 264 [a0, a1, a2, a3] st S := st_ite rfl
set_option maxRecDepth 100000 in
theorem s287_264 {j : Nat} {a0 : av} {a1 : av} {a2 : av} {a3 : av} {st : List av} (S : Sto) : run 287 j 264 [a0, a1, a2, a3] st S = run 287 j 265 [a0, a1, a2, a3] (vI 0 :: st) S := st_ rfl
set_option maxRecDepth 100000 in
theorem s287_265 {j : Nat} {a0 : av} {a1 : av} {a2 : av} {a3 : av} (x : Int32) (S : Sto) : run 287 j 265 [a0, a1, a2, a3] [vI x] S = if vp_nar .boolean x = x then some (some (vI x), S) else none := st_rb rfl
set_option maxRecDepth 100000 in
theorem s287_266 {j : Nat} {a0 : av} {a2 : av} {a3 : av} {st : List av} (q : Nat) (S : Sto) : run 287 j 266 [a0, vR 0 q, a2, a3] st S = run 287 j 267 [a0, vR 0 q, a2, a3] (vR 0 q :: st) S := st_ rfl
set_option maxRecDepth 100000 in
theorem s287_267 {j : Nat} {a1 : av} {a2 : av} {a3 : av} {st : List av} (q : Nat) (S : Sto) : run 287 j 267 [vR 102 q, a1, a2, a3] st S = run 287 j 268 [vR 102 q, a1, a2, a3] (vR 102 q :: st) S := st_ rfl
set_option maxRecDepth 100000 in
theorem s287_268 {j : Nat} {a0 : av} {a1 : av} {a2 : av} {st : List av} (x : Int32) (S : Sto) : run 287 j 268 [a0, a1, a2, vI x] st S = run 287 j 269 [a0, a1, a2, vI x] (vI x :: st) S := st_ rfl
set_option maxRecDepth 100000 in
theorem s287_269 {j : Nat} {a0 : av} {a1 : av} {a2 : av} {a3 : av} {st : List av} (S : Sto) : run 287 j 269 [a0, a1, a2, a3] st S = run 287 j 270 [a0, a1, a2, a3] (vI 1 :: st) S := st_ rfl
set_option maxRecDepth 100000 in
theorem s287_270 {j : Nat} {a0 : av} {a1 : av} {a2 : av} {a3 : av} {st : List av} (x y : Int32) (S : Sto) : run 287 j 270 [a0, a1, a2, a3] (vI y :: vI x :: st) S = run 287 j 271 [a0, a1, a2, a3] (vI (x + y) :: st) S := st_ rfl
set_option maxRecDepth 100000 in
theorem s287_271 {j : Nat} {a0 : av} {a1 : av} {a2 : av} {a3 : av} {st : List av} (x : Int32) (q : Nat) (S : Sto) : run 287 j 271 [a0, a1, a2, a3] (vI x :: vR 102 q :: st) S = if ib x (S.1 103 0 0).toNatClampNeg then run 287 j 272 [a0, a1, a2, a3] (vI (S.1 102 q x.toNatClampNeg) :: st) S else none := st_itN rfl
set_option maxRecDepth 100000 in
theorem s287_272 {j : Nat} {a1 : av} {a2 : av} {a3 : av} {st : List av} (q : Nat) (S : Sto) : run 287 j 272 [vR 102 q, a1, a2, a3] st S = run 287 j 273 [vR 102 q, a1, a2, a3] (vR 102 q :: st) S := st_ rfl
set_option maxRecDepth 100000 in
theorem s287_273 {j : Nat} {a0 : av} {a1 : av} {a2 : av} {st : List av} (x : Int32) (S : Sto) : run 287 j 273 [a0, a1, a2, vI x] st S = run 287 j 274 [a0, a1, a2, vI x] (vI x :: st) S := st_ rfl
set_option maxRecDepth 100000 in
theorem s287_274 {j : Nat} {a0 : av} {a1 : av} {a2 : av} {a3 : av} {st : List av} (S : Sto) : run 287 j 274 [a0, a1, a2, a3] st S = run 287 j 275 [a0, a1, a2, a3] (vI 2 :: st) S := st_ rfl
set_option maxRecDepth 100000 in
theorem s287_275 {j : Nat} {a0 : av} {a1 : av} {a2 : av} {a3 : av} {st : List av} (x y : Int32) (S : Sto) : run 287 j 275 [a0, a1, a2, a3] (vI y :: vI x :: st) S = run 287 j 276 [a0, a1, a2, a3] (vI (x + y) :: st) S := st_ rfl
set_option maxRecDepth 100000 in
theorem s287_276 {j : Nat} {a0 : av} {a1 : av} {a2 : av} {a3 : av} {st : List av} (x : Int32) (q : Nat) (S : Sto) : run 287 j 276 [a0, a1, a2, a3] (vI x :: vR 102 q :: st) S = if ib x (S.1 103 0 0).toNatClampNeg then run 287 j 277 [a0, a1, a2, a3] (vI (S.1 102 q x.toNatClampNeg) :: st) S else none := st_itN rfl
set_option maxRecDepth 100000 in
theorem s287_277 {j : Nat} {a1 : av} {a2 : av} {a3 : av} {st : List av} (q : Nat) (S : Sto) : run 287 j 277 [vR 102 q, a1, a2, a3] st S = run 287 j 278 [vR 102 q, a1, a2, a3] (vR 102 q :: st) S := st_ rfl
set_option maxRecDepth 100000 in
theorem s287_278 {j : Nat} {a0 : av} {a1 : av} {a2 : av} {st : List av} (x : Int32) (S : Sto) : run 287 j 278 [a0, a1, a2, vI x] st S = run 287 j 279 [a0, a1, a2, vI x] (vI x :: st) S := st_ rfl
set_option maxRecDepth 100000 in
theorem s287_279 {j : Nat} {a0 : av} {a1 : av} {a2 : av} {a3 : av} {st : List av} (S : Sto) : run 287 j 279 [a0, a1, a2, a3] st S = run 287 j 280 [a0, a1, a2, a3] (vI 3 :: st) S := st_ rfl
set_option maxRecDepth 100000 in
theorem s287_280 {j : Nat} {a0 : av} {a1 : av} {a2 : av} {a3 : av} {st : List av} (x y : Int32) (S : Sto) : run 287 j 280 [a0, a1, a2, a3] (vI y :: vI x :: st) S = run 287 j 281 [a0, a1, a2, a3] (vI (x + y) :: st) S := st_ rfl
set_option maxRecDepth 100000 in
theorem s287_281 {j : Nat} {a0 : av} {a1 : av} {a2 : av} {a3 : av} {st : List av} (x : Int32) (q : Nat) (S : Sto) : run 287 j 281 [a0, a1, a2, a3] (vI x :: vR 102 q :: st) S = if ib x (S.1 103 0 0).toNatClampNeg then run 287 j 282 [a0, a1, a2, a3] (vI (S.1 102 q x.toNatClampNeg) :: st) S else none := st_itN rfl
set_option maxRecDepth 100000 in
theorem s287_282 {j : Nat} {a0 : av} {a1 : av} {a2 : av} {a3 : av} {st : List av} (x : Int32) (S : Sto) : run 287 j 282 [a0, a1, a2, a3] (vI x :: st) S = if x = 0 then run 287 j 289 [a0, a1, a2, a3] st S else run 287 j 285 [a0, a1, a2, a3] st S := st_ite rfl
set_option maxRecDepth 100000 in
theorem s287_285 {j : Nat} {a0 : av} {a1 : av} {a2 : av} {a3 : av} {st : List av} (S : Sto) : run 287 j 285 [a0, a1, a2, a3] st S = run 287 j 286 [a0, a1, a2, a3] (vI 1 :: st) S := st_ rfl
set_option maxRecDepth 100000 in
theorem s287_286 {j : Nat} {a0 : av} {a1 : av} {a2 : av} {a3 : av} {st : List av} (S : Sto) : run 287 j 286 [a0, a1, a2, a3] st S = run 287 j 290 [a0, a1, a2, a3] st S := st_ rfl
set_option maxRecDepth 100000 in
theorem s287_289 {j : Nat} {a0 : av} {a1 : av} {a2 : av} {a3 : av} {st : List av} (S : Sto) : run 287 j 289 [a0, a1, a2, a3] st S = run 287 j 290 [a0, a1, a2, a3] (vI 0 :: st) S := st_ rfl
set_option maxRecDepth 100000 in
theorem s287_290 {j : Nat} {a0 : av} {a1 : av} {a2 : av} {a3 : av} (x0 : Int32) (x1 : Int32) (x2 : Int32) (x3 : Nat) (S : Sto) : run 287 j 290 [a0, a1, a2, a3] [vI x0, vI x1, vI x2, vR 0 x3] S = bV (call 95 0 [vR 0 x3, vI x2, vI x1, vI x0] S) (fun v S' => run 287 j 293 [a0, a1, a2, a3] (v :: []) S') := st_cV rfl
set_option maxRecDepth 100000 in
theorem s287_293 {j : Nat} {a0 : av} {a1 : av} {a3 : av} {st : List av} (q : Nat) (S : Sto) : run 287 j 293 [a0, a1, vR 50 q, a3] st S = run 287 j 294 [a0, a1, vR 50 q, a3] (vR 50 q :: st) S := st_ rfl
set_option maxRecDepth 100000 in
theorem s287_294 {j : Nat} {a1 : av} {a2 : av} {a3 : av} {st : List av} (q : Nat) (S : Sto) : run 287 j 294 [vR 102 q, a1, a2, a3] st S = run 287 j 295 [vR 102 q, a1, a2, a3] (vR 102 q :: st) S := st_ rfl
set_option maxRecDepth 100000 in
theorem s287_295 {j : Nat} {a0 : av} {a1 : av} {a2 : av} {st : List av} (x : Int32) (S : Sto) : run 287 j 295 [a0, a1, a2, vI x] st S = run 287 j 296 [a0, a1, a2, vI x] (vI x :: st) S := st_ rfl
set_option maxRecDepth 100000 in
theorem s287_296 {j : Nat} {a0 : av} {a1 : av} {a2 : av} {a3 : av} {st : List av} (S : Sto) : run 287 j 296 [a0, a1, a2, a3] st S = run 287 j 297 [a0, a1, a2, a3] (vI 1 :: st) S := st_ rfl
set_option maxRecDepth 100000 in
theorem s287_297 {j : Nat} {a0 : av} {a1 : av} {a2 : av} {a3 : av} {st : List av} (x y : Int32) (S : Sto) : run 287 j 297 [a0, a1, a2, a3] (vI y :: vI x :: st) S = run 287 j 298 [a0, a1, a2, a3] (vI (x + y) :: st) S := st_ rfl
set_option maxRecDepth 100000 in
theorem s287_298 {j : Nat} {a0 : av} {a1 : av} {a2 : av} {a3 : av} {st : List av} (x : Int32) (q : Nat) (S : Sto) : run 287 j 298 [a0, a1, a2, a3] (vI x :: vR 102 q :: st) S = if ib x (S.1 103 0 0).toNatClampNeg then run 287 j 299 [a0, a1, a2, a3] (vI (S.1 102 q x.toNatClampNeg) :: st) S else none := st_itN rfl
set_option maxRecDepth 100000 in
theorem s287_299 {j : Nat} {a1 : av} {a2 : av} {a3 : av} {st : List av} (q : Nat) (S : Sto) : run 287 j 299 [vR 102 q, a1, a2, a3] st S = run 287 j 300 [vR 102 q, a1, a2, a3] (vR 102 q :: st) S := st_ rfl
set_option maxRecDepth 100000 in
theorem s287_300 {j : Nat} {a0 : av} {a1 : av} {a2 : av} {st : List av} (x : Int32) (S : Sto) : run 287 j 300 [a0, a1, a2, vI x] st S = run 287 j 301 [a0, a1, a2, vI x] (vI x :: st) S := st_ rfl
set_option maxRecDepth 100000 in
theorem s287_301 {j : Nat} {a0 : av} {a1 : av} {a2 : av} {a3 : av} {st : List av} (S : Sto) : run 287 j 301 [a0, a1, a2, a3] st S = run 287 j 302 [a0, a1, a2, a3] (vI 2 :: st) S := st_ rfl
set_option maxRecDepth 100000 in
theorem s287_302 {j : Nat} {a0 : av} {a1 : av} {a2 : av} {a3 : av} {st : List av} (x y : Int32) (S : Sto) : run 287 j 302 [a0, a1, a2, a3] (vI y :: vI x :: st) S = run 287 j 303 [a0, a1, a2, a3] (vI (x + y) :: st) S := st_ rfl
set_option maxRecDepth 100000 in
theorem s287_303 {j : Nat} {a0 : av} {a1 : av} {a2 : av} {a3 : av} {st : List av} (x : Int32) (q : Nat) (S : Sto) : run 287 j 303 [a0, a1, a2, a3] (vI x :: vR 102 q :: st) S = if ib x (S.1 103 0 0).toNatClampNeg then run 287 j 304 [a0, a1, a2, a3] (vI (S.1 102 q x.toNatClampNeg) :: st) S else none := st_itN rfl
set_option maxRecDepth 100000 in
theorem s287_304 {j : Nat} {a1 : av} {a2 : av} {a3 : av} {st : List av} (q : Nat) (S : Sto) : run 287 j 304 [vR 102 q, a1, a2, a3] st S = run 287 j 305 [vR 102 q, a1, a2, a3] (vR 102 q :: st) S := st_ rfl
set_option maxRecDepth 100000 in
theorem s287_305 {j : Nat} {a0 : av} {a1 : av} {a2 : av} {st : List av} (x : Int32) (S : Sto) : run 287 j 305 [a0, a1, a2, vI x] st S = run 287 j 306 [a0, a1, a2, vI x] (vI x :: st) S := st_ rfl
set_option maxRecDepth 100000 in
theorem s287_306 {j : Nat} {a0 : av} {a1 : av} {a2 : av} {a3 : av} {st : List av} (S : Sto) : run 287 j 306 [a0, a1, a2, a3] st S = run 287 j 307 [a0, a1, a2, a3] (vI 3 :: st) S := st_ rfl
set_option maxRecDepth 100000 in
theorem s287_307 {j : Nat} {a0 : av} {a1 : av} {a2 : av} {a3 : av} {st : List av} (x y : Int32) (S : Sto) : run 287 j 307 [a0, a1, a2, a3] (vI y :: vI x :: st) S = run 287 j 308 [a0, a1, a2, a3] (vI (x + y) :: st) S := st_ rfl
set_option maxRecDepth 100000 in
theorem s287_308 {j : Nat} {a0 : av} {a1 : av} {a2 : av} {a3 : av} {st : List av} (x : Int32) (q : Nat) (S : Sto) : run 287 j 308 [a0, a1, a2, a3] (vI x :: vR 102 q :: st) S = if ib x (S.1 103 0 0).toNatClampNeg then run 287 j 309 [a0, a1, a2, a3] (vI (S.1 102 q x.toNatClampNeg) :: st) S else none := st_itN rfl
set_option maxRecDepth 100000 in
theorem s287_309 {j : Nat} {a0 : av} {a1 : av} {a2 : av} {a3 : av} {st : List av} (x : Int32) (S : Sto) : run 287 j 309 [a0, a1, a2, a3] (vI x :: st) S = if x = 0 then run 287 j 316 [a0, a1, a2, a3] st S else run 287 j 312 [a0, a1, a2, a3] st S := st_ite rfl
set_option maxRecDepth 100000 in
theorem s287_312 {j : Nat} {a0 : av} {a1 : av} {a2 : av} {a3 : av} {st : List av} (S : Sto) : run 287 j 312 [a0, a1, a2, a3] st S = run 287 j 313 [a0, a1, a2, a3] (vI 1 :: st) S := st_ rfl
set_option maxRecDepth 100000 in
theorem s287_313 {j : Nat} {a0 : av} {a1 : av} {a2 : av} {a3 : av} {st : List av} (S : Sto) : run 287 j 313 [a0, a1, a2, a3] st S = run 287 j 317 [a0, a1, a2, a3] st S := st_ rfl
set_option maxRecDepth 100000 in
theorem s287_316 {j : Nat} {a0 : av} {a1 : av} {a2 : av} {a3 : av} {st : List av} (S : Sto) : run 287 j 316 [a0, a1, a2, a3] st S = run 287 j 317 [a0, a1, a2, a3] (vI 0 :: st) S := st_ rfl
set_option maxRecDepth 100000 in
theorem s287_317 {j : Nat} {a0 : av} {a1 : av} {a2 : av} {a3 : av} (x0 : Int32) (x1 : Int32) (x2 : Int32) (x3 : Nat) (x4 : Int32) (S : Sto) : run 287 j 317 [a0, a1, a2, a3] [vI x0, vI x1, vI x2, vR 50 x3, vI x4] S = bV (call 141 0 [vR 50 x3, vI x2, vI x1, vI x0] S) (fun v S' => run 287 j 320 [a0, a1, a2, a3] (v :: [vI x4]) S') := st_cV rfl
set_option maxRecDepth 100000 in
theorem s287_320 {j : Nat} {a0 : av} {a1 : av} {a2 : av} {a3 : av} {st : List av} (x y : Int32) (S : Sto) : run 287 j 320 [a0, a1, a2, a3] (vI y :: vI x :: st) S = if x = y then run 287 j 1470 [a0, a1, a2, a3] st S else run 287 j 323 [a0, a1, a2, a3] st S := st_ite rfl
set_option maxRecDepth 100000 in
theorem s287_323 {j : Nat} {a0 : av} {a1 : av} {a2 : av} {a3 : av} {st : List av} (S : Sto) : run 287 j 323 [a0, a1, a2, a3] st S = run 287 j 324 [a0, a1, a2, a3] (vI 0 :: st) S := st_ rfl
set_option maxRecDepth 100000 in
theorem s287_324 {j : Nat} {a0 : av} {a1 : av} {a2 : av} {a3 : av} (x : Int32) (S : Sto) : run 287 j 324 [a0, a1, a2, a3] [vI x] S = if vp_nar .boolean x = x then some (some (vI x), S) else none := st_rb rfl
set_option maxRecDepth 100000 in
theorem s287_325 {j : Nat} {a0 : av} {a2 : av} {a3 : av} {st : List av} (q : Nat) (S : Sto) : run 287 j 325 [a0, vR 0 q, a2, a3] st S = run 287 j 326 [a0, vR 0 q, a2, a3] (vR 0 q :: st) S := st_ rfl
set_option maxRecDepth 100000 in
theorem s287_326 {j : Nat} {a1 : av} {a2 : av} {a3 : av} {st : List av} (q : Nat) (S : Sto) : run 287 j 326 [vR 102 q, a1, a2, a3] st S = run 287 j 327 [vR 102 q, a1, a2, a3] (vR 102 q :: st) S := st_ rfl
set_option maxRecDepth 100000 in
theorem s287_327 {j : Nat} {a0 : av} {a1 : av} {a2 : av} {st : List av} (x : Int32) (S : Sto) : run 287 j 327 [a0, a1, a2, vI x] st S = run 287 j 328 [a0, a1, a2, vI x] (vI x :: st) S := st_ rfl
set_option maxRecDepth 100000 in
theorem s287_328 {j : Nat} {a0 : av} {a1 : av} {a2 : av} {a3 : av} {st : List av} (S : Sto) : run 287 j 328 [a0, a1, a2, a3] st S = run 287 j 329 [a0, a1, a2, a3] (vI 1 :: st) S := st_ rfl
set_option maxRecDepth 100000 in
theorem s287_329 {j : Nat} {a0 : av} {a1 : av} {a2 : av} {a3 : av} {st : List av} (x y : Int32) (S : Sto) : run 287 j 329 [a0, a1, a2, a3] (vI y :: vI x :: st) S = run 287 j 330 [a0, a1, a2, a3] (vI (x + y) :: st) S := st_ rfl
set_option maxRecDepth 100000 in
theorem s287_330 {j : Nat} {a0 : av} {a1 : av} {a2 : av} {a3 : av} {st : List av} (x : Int32) (q : Nat) (S : Sto) : run 287 j 330 [a0, a1, a2, a3] (vI x :: vR 102 q :: st) S = if ib x (S.1 103 0 0).toNatClampNeg then run 287 j 331 [a0, a1, a2, a3] (vI (S.1 102 q x.toNatClampNeg) :: st) S else none := st_itN rfl
set_option maxRecDepth 100000 in
theorem s287_331 {j : Nat} {a1 : av} {a2 : av} {a3 : av} {st : List av} (q : Nat) (S : Sto) : run 287 j 331 [vR 102 q, a1, a2, a3] st S = run 287 j 332 [vR 102 q, a1, a2, a3] (vR 102 q :: st) S := st_ rfl
set_option maxRecDepth 100000 in
theorem s287_332 {j : Nat} {a0 : av} {a1 : av} {a2 : av} {st : List av} (x : Int32) (S : Sto) : run 287 j 332 [a0, a1, a2, vI x] st S = run 287 j 333 [a0, a1, a2, vI x] (vI x :: st) S := st_ rfl
set_option maxRecDepth 100000 in
theorem s287_333 {j : Nat} {a0 : av} {a1 : av} {a2 : av} {a3 : av} {st : List av} (S : Sto) : run 287 j 333 [a0, a1, a2, a3] st S = run 287 j 334 [a0, a1, a2, a3] (vI 2 :: st) S := st_ rfl
set_option maxRecDepth 100000 in
theorem s287_334 {j : Nat} {a0 : av} {a1 : av} {a2 : av} {a3 : av} {st : List av} (x y : Int32) (S : Sto) : run 287 j 334 [a0, a1, a2, a3] (vI y :: vI x :: st) S = run 287 j 335 [a0, a1, a2, a3] (vI (x + y) :: st) S := st_ rfl
set_option maxRecDepth 100000 in
theorem s287_335 {j : Nat} {a0 : av} {a1 : av} {a2 : av} {a3 : av} {st : List av} (x : Int32) (q : Nat) (S : Sto) : run 287 j 335 [a0, a1, a2, a3] (vI x :: vR 102 q :: st) S = if ib x (S.1 103 0 0).toNatClampNeg then run 287 j 336 [a0, a1, a2, a3] (vI (S.1 102 q x.toNatClampNeg) :: st) S else none := st_itN rfl
set_option maxRecDepth 100000 in
theorem s287_336 {j : Nat} {a0 : av} {a1 : av} {a2 : av} {a3 : av} (x0 : Int32) (x1 : Int32) (x2 : Nat) (S : Sto) : run 287 j 336 [a0, a1, a2, a3] [vI x0, vI x1, vR 0 x2] S = bV (call 97 0 [vR 0 x2, vI x1, vI x0] S) (fun v S' => run 287 j 339 [a0, a1, a2, a3] (v :: []) S') := st_cV rfl
set_option maxRecDepth 100000 in
theorem s287_339 {j : Nat} {a0 : av} {a1 : av} {a3 : av} {st : List av} (q : Nat) (S : Sto) : run 287 j 339 [a0, a1, vR 50 q, a3] st S = run 287 j 340 [a0, a1, vR 50 q, a3] (vR 50 q :: st) S := st_ rfl
set_option maxRecDepth 100000 in
theorem s287_340 {j : Nat} {a1 : av} {a2 : av} {a3 : av} {st : List av} (q : Nat) (S : Sto) : run 287 j 340 [vR 102 q, a1, a2, a3] st S = run 287 j 341 [vR 102 q, a1, a2, a3] (vR 102 q :: st) S := st_ rfl
set_option maxRecDepth 100000 in
theorem s287_341 {j : Nat} {a0 : av} {a1 : av} {a2 : av} {st : List av} (x : Int32) (S : Sto) : run 287 j 341 [a0, a1, a2, vI x] st S = run 287 j 342 [a0, a1, a2, vI x] (vI x :: st) S := st_ rfl
set_option maxRecDepth 100000 in
theorem s287_342 {j : Nat} {a0 : av} {a1 : av} {a2 : av} {a3 : av} {st : List av} (S : Sto) : run 287 j 342 [a0, a1, a2, a3] st S = run 287 j 343 [a0, a1, a2, a3] (vI 1 :: st) S := st_ rfl
set_option maxRecDepth 100000 in
theorem s287_343 {j : Nat} {a0 : av} {a1 : av} {a2 : av} {a3 : av} {st : List av} (x y : Int32) (S : Sto) : run 287 j 343 [a0, a1, a2, a3] (vI y :: vI x :: st) S = run 287 j 344 [a0, a1, a2, a3] (vI (x + y) :: st) S := st_ rfl
set_option maxRecDepth 100000 in
theorem s287_344 {j : Nat} {a0 : av} {a1 : av} {a2 : av} {a3 : av} {st : List av} (x : Int32) (q : Nat) (S : Sto) : run 287 j 344 [a0, a1, a2, a3] (vI x :: vR 102 q :: st) S = if ib x (S.1 103 0 0).toNatClampNeg then run 287 j 345 [a0, a1, a2, a3] (vI (S.1 102 q x.toNatClampNeg) :: st) S else none := st_itN rfl
set_option maxRecDepth 100000 in
theorem s287_345 {j : Nat} {a1 : av} {a2 : av} {a3 : av} {st : List av} (q : Nat) (S : Sto) : run 287 j 345 [vR 102 q, a1, a2, a3] st S = run 287 j 346 [vR 102 q, a1, a2, a3] (vR 102 q :: st) S := st_ rfl
set_option maxRecDepth 100000 in
theorem s287_346 {j : Nat} {a0 : av} {a1 : av} {a2 : av} {st : List av} (x : Int32) (S : Sto) : run 287 j 346 [a0, a1, a2, vI x] st S = run 287 j 347 [a0, a1, a2, vI x] (vI x :: st) S := st_ rfl
set_option maxRecDepth 100000 in
theorem s287_347 {j : Nat} {a0 : av} {a1 : av} {a2 : av} {a3 : av} {st : List av} (S : Sto) : run 287 j 347 [a0, a1, a2, a3] st S = run 287 j 348 [a0, a1, a2, a3] (vI 2 :: st) S := st_ rfl
set_option maxRecDepth 100000 in
theorem s287_348 {j : Nat} {a0 : av} {a1 : av} {a2 : av} {a3 : av} {st : List av} (x y : Int32) (S : Sto) : run 287 j 348 [a0, a1, a2, a3] (vI y :: vI x :: st) S = run 287 j 349 [a0, a1, a2, a3] (vI (x + y) :: st) S := st_ rfl
set_option maxRecDepth 100000 in
theorem s287_349 {j : Nat} {a0 : av} {a1 : av} {a2 : av} {a3 : av} {st : List av} (x : Int32) (q : Nat) (S : Sto) : run 287 j 349 [a0, a1, a2, a3] (vI x :: vR 102 q :: st) S = if ib x (S.1 103 0 0).toNatClampNeg then run 287 j 350 [a0, a1, a2, a3] (vI (S.1 102 q x.toNatClampNeg) :: st) S else none := st_itN rfl
set_option maxRecDepth 100000 in
theorem s287_350 {j : Nat} {a0 : av} {a1 : av} {a2 : av} {a3 : av} (x0 : Int32) (x1 : Int32) (x2 : Nat) (x3 : Int32) (S : Sto) : run 287 j 350 [a0, a1, a2, a3] [vI x0, vI x1, vR 50 x2, vI x3] S = bV (call 145 0 [vR 50 x2, vI x1, vI x0] S) (fun v S' => run 287 j 353 [a0, a1, a2, a3] (v :: [vI x3]) S') := st_cV rfl
set_option maxRecDepth 100000 in
theorem s287_353 {j : Nat} {a0 : av} {a1 : av} {a2 : av} {a3 : av} {st : List av} (x y : Int32) (S : Sto) : run 287 j 353 [a0, a1, a2, a3] (vI y :: vI x :: st) S = if x = y then run 287 j 1470 [a0, a1, a2, a3] st S else run 287 j 356 [a0, a1, a2, a3] st S := st_ite rfl
set_option maxRecDepth 100000 in
theorem s287_356 {j : Nat} {a0 : av} {a1 : av} {a2 : av} {a3 : av} {st : List av} (S : Sto) : run 287 j 356 [a0, a1, a2, a3] st S = run 287 j 357 [a0, a1, a2, a3] (vI 0 :: st) S := st_ rfl
set_option maxRecDepth 100000 in
theorem s287_357 {j : Nat} {a0 : av} {a1 : av} {a2 : av} {a3 : av} (x : Int32) (S : Sto) : run 287 j 357 [a0, a1, a2, a3] [vI x] S = if vp_nar .boolean x = x then some (some (vI x), S) else none := st_rb rfl
set_option maxRecDepth 100000 in
theorem s287_358 {j : Nat} {a0 : av} {a2 : av} {a3 : av} {st : List av} (q : Nat) (S : Sto) : run 287 j 358 [a0, vR 0 q, a2, a3] st S = run 287 j 359 [a0, vR 0 q, a2, a3] (vR 0 q :: st) S := st_ rfl
set_option maxRecDepth 100000 in
theorem s287_359 {j : Nat} {a1 : av} {a2 : av} {a3 : av} {st : List av} (q : Nat) (S : Sto) : run 287 j 359 [vR 102 q, a1, a2, a3] st S = run 287 j 360 [vR 102 q, a1, a2, a3] (vR 102 q :: st) S := st_ rfl
set_option maxRecDepth 100000 in
theorem s287_360 {j : Nat} {a0 : av} {a1 : av} {a2 : av} {st : List av} (x : Int32) (S : Sto) : run 287 j 360 [a0, a1, a2, vI x] st S = run 287 j 361 [a0, a1, a2, vI x] (vI x :: st) S := st_ rfl
set_option maxRecDepth 100000 in
theorem s287_361 {j : Nat} {a0 : av} {a1 : av} {a2 : av} {a3 : av} {st : List av} (S : Sto) : run 287 j 361 [a0, a1, a2, a3] st S = run 287 j 362 [a0, a1, a2, a3] (vI 1 :: st) S := st_ rfl
set_option maxRecDepth 100000 in
theorem s287_362 {j : Nat} {a0 : av} {a1 : av} {a2 : av} {a3 : av} {st : List av} (x y : Int32) (S : Sto) : run 287 j 362 [a0, a1, a2, a3] (vI y :: vI x :: st) S = run 287 j 363 [a0, a1, a2, a3] (vI (x + y) :: st) S := st_ rfl
set_option maxRecDepth 100000 in
theorem s287_363 {j : Nat} {a0 : av} {a1 : av} {a2 : av} {a3 : av} {st : List av} (x : Int32) (q : Nat) (S : Sto) : run 287 j 363 [a0, a1, a2, a3] (vI x :: vR 102 q :: st) S = if ib x (S.1 103 0 0).toNatClampNeg then run 287 j 364 [a0, a1, a2, a3] (vI (S.1 102 q x.toNatClampNeg) :: st) S else none := st_itN rfl
set_option maxRecDepth 100000 in
theorem s287_364 {j : Nat} {a1 : av} {a2 : av} {a3 : av} {st : List av} (q : Nat) (S : Sto) : run 287 j 364 [vR 102 q, a1, a2, a3] st S = run 287 j 365 [vR 102 q, a1, a2, a3] (vR 102 q :: st) S := st_ rfl
set_option maxRecDepth 100000 in
theorem s287_365 {j : Nat} {a0 : av} {a1 : av} {a2 : av} {st : List av} (x : Int32) (S : Sto) : run 287 j 365 [a0, a1, a2, vI x] st S = run 287 j 366 [a0, a1, a2, vI x] (vI x :: st) S := st_ rfl
set_option maxRecDepth 100000 in
theorem s287_366 {j : Nat} {a0 : av} {a1 : av} {a2 : av} {a3 : av} {st : List av} (S : Sto) : run 287 j 366 [a0, a1, a2, a3] st S = run 287 j 367 [a0, a1, a2, a3] (vI 2 :: st) S := st_ rfl
set_option maxRecDepth 100000 in
theorem s287_367 {j : Nat} {a0 : av} {a1 : av} {a2 : av} {a3 : av} {st : List av} (x y : Int32) (S : Sto) : run 287 j 367 [a0, a1, a2, a3] (vI y :: vI x :: st) S = run 287 j 368 [a0, a1, a2, a3] (vI (x + y) :: st) S := st_ rfl
set_option maxRecDepth 100000 in
theorem s287_368 {j : Nat} {a0 : av} {a1 : av} {a2 : av} {a3 : av} {st : List av} (x : Int32) (q : Nat) (S : Sto) : run 287 j 368 [a0, a1, a2, a3] (vI x :: vR 102 q :: st) S = if ib x (S.1 103 0 0).toNatClampNeg then run 287 j 369 [a0, a1, a2, a3] (vI (S.1 102 q x.toNatClampNeg) :: st) S else none := st_itN rfl
set_option maxRecDepth 100000 in
theorem s287_369 {j : Nat} {a1 : av} {a2 : av} {a3 : av} {st : List av} (q : Nat) (S : Sto) : run 287 j 369 [vR 102 q, a1, a2, a3] st S = run 287 j 370 [vR 102 q, a1, a2, a3] (vR 102 q :: st) S := st_ rfl
set_option maxRecDepth 100000 in
theorem s287_370 {j : Nat} {a0 : av} {a1 : av} {a2 : av} {st : List av} (x : Int32) (S : Sto) : run 287 j 370 [a0, a1, a2, vI x] st S = run 287 j 371 [a0, a1, a2, vI x] (vI x :: st) S := st_ rfl
set_option maxRecDepth 100000 in
theorem s287_371 {j : Nat} {a0 : av} {a1 : av} {a2 : av} {a3 : av} {st : List av} (S : Sto) : run 287 j 371 [a0, a1, a2, a3] st S = run 287 j 372 [a0, a1, a2, a3] (vI 3 :: st) S := st_ rfl
set_option maxRecDepth 100000 in
theorem s287_372 {j : Nat} {a0 : av} {a1 : av} {a2 : av} {a3 : av} {st : List av} (x y : Int32) (S : Sto) : run 287 j 372 [a0, a1, a2, a3] (vI y :: vI x :: st) S = run 287 j 373 [a0, a1, a2, a3] (vI (x + y) :: st) S := st_ rfl
set_option maxRecDepth 100000 in
theorem s287_373 {j : Nat} {a0 : av} {a1 : av} {a2 : av} {a3 : av} {st : List av} (x : Int32) (q : Nat) (S : Sto) : run 287 j 373 [a0, a1, a2, a3] (vI x :: vR 102 q :: st) S = if ib x (S.1 103 0 0).toNatClampNeg then run 287 j 374 [a0, a1, a2, a3] (vI (S.1 102 q x.toNatClampNeg) :: st) S else none := st_itN rfl
set_option maxRecDepth 100000 in
theorem s287_374 {j : Nat} {a0 : av} {a1 : av} {a2 : av} {a3 : av} (x0 : Int32) (x1 : Int32) (x2 : Int32) (x3 : Nat) (S : Sto) : run 287 j 374 [a0, a1, a2, a3] [vI x0, vI x1, vI x2, vR 0 x3] S = bV (call 98 0 [vR 0 x3, vI x2, vI x1, vI x0] S) (fun v S' => run 287 j 377 [a0, a1, a2, a3] (v :: []) S') := st_cV rfl
set_option maxRecDepth 100000 in
theorem s287_377 {j : Nat} {a0 : av} {a1 : av} {a3 : av} {st : List av} (q : Nat) (S : Sto) : run 287 j 377 [a0, a1, vR 50 q, a3] st S = run 287 j 378 [a0, a1, vR 50 q, a3] (vR 50 q :: st) S := st_ rfl
set_option maxRecDepth 100000 in
theorem s287_378 {j : Nat} {a1 : av} {a2 : av} {a3 : av} {st : List av} (q : Nat) (S : Sto) : run 287 j 378 [vR 102 q, a1, a2, a3] st S = run 287 j 379 [vR 102 q, a1, a2, a3] (vR 102 q :: st) S := st_ rfl
set_option maxRecDepth 100000 in
theorem s287_379 {j : Nat} {a0 : av} {a1 : av} {a2 : av} {st : List av} (x : Int32) (S : Sto) : run 287 j 379 [a0, a1, a2, vI x] st S = run 287 j 380 [a0, a1, a2, vI x] (vI x :: st) S := st_ rfl
set_option maxRecDepth 100000 in
theorem s287_380 {j : Nat} {a0 : av} {a1 : av} {a2 : av} {a3 : av} {st : List av} (S : Sto) : run 287 j 380 [a0, a1, a2, a3] st S = run 287 j 381 [a0, a1, a2, a3] (vI 1 :: st) S := st_ rfl
set_option maxRecDepth 100000 in
theorem s287_381 {j : Nat} {a0 : av} {a1 : av} {a2 : av} {a3 : av} {st : List av} (x y : Int32) (S : Sto) : run 287 j 381 [a0, a1, a2, a3] (vI y :: vI x :: st) S = run 287 j 382 [a0, a1, a2, a3] (vI (x + y) :: st) S := st_ rfl
set_option maxRecDepth 100000 in
theorem s287_382 {j : Nat} {a0 : av} {a1 : av} {a2 : av} {a3 : av} {st : List av} (x : Int32) (q : Nat) (S : Sto) : run 287 j 382 [a0, a1, a2, a3] (vI x :: vR 102 q :: st) S = if ib x (S.1 103 0 0).toNatClampNeg then run 287 j 383 [a0, a1, a2, a3] (vI (S.1 102 q x.toNatClampNeg) :: st) S else none := st_itN rfl
set_option maxRecDepth 100000 in
theorem s287_383 {j : Nat} {a1 : av} {a2 : av} {a3 : av} {st : List av} (q : Nat) (S : Sto) : run 287 j 383 [vR 102 q, a1, a2, a3] st S = run 287 j 384 [vR 102 q, a1, a2, a3] (vR 102 q :: st) S := st_ rfl
set_option maxRecDepth 100000 in
theorem s287_384 {j : Nat} {a0 : av} {a1 : av} {a2 : av} {st : List av} (x : Int32) (S : Sto) : run 287 j 384 [a0, a1, a2, vI x] st S = run 287 j 385 [a0, a1, a2, vI x] (vI x :: st) S := st_ rfl
set_option maxRecDepth 100000 in
theorem s287_385 {j : Nat} {a0 : av} {a1 : av} {a2 : av} {a3 : av} {st : List av} (S : Sto) : run 287 j 385 [a0, a1, a2, a3] st S = run 287 j 386 [a0, a1, a2, a3] (vI 2 :: st) S := st_ rfl
set_option maxRecDepth 100000 in
theorem s287_386 {j : Nat} {a0 : av} {a1 : av} {a2 : av} {a3 : av} {st : List av} (x y : Int32) (S : Sto) : run 287 j 386 [a0, a1, a2, a3] (vI y :: vI x :: st) S = run 287 j 387 [a0, a1, a2, a3] (vI (x + y) :: st) S := st_ rfl
set_option maxRecDepth 100000 in
theorem s287_387 {j : Nat} {a0 : av} {a1 : av} {a2 : av} {a3 : av} {st : List av} (x : Int32) (q : Nat) (S : Sto) : run 287 j 387 [a0, a1, a2, a3] (vI x :: vR 102 q :: st) S = if ib x (S.1 103 0 0).toNatClampNeg then run 287 j 388 [a0, a1, a2, a3] (vI (S.1 102 q x.toNatClampNeg) :: st) S else none := st_itN rfl
set_option maxRecDepth 100000 in
theorem s287_388 {j : Nat} {a1 : av} {a2 : av} {a3 : av} {st : List av} (q : Nat) (S : Sto) : run 287 j 388 [vR 102 q, a1, a2, a3] st S = run 287 j 389 [vR 102 q, a1, a2, a3] (vR 102 q :: st) S := st_ rfl
set_option maxRecDepth 100000 in
theorem s287_389 {j : Nat} {a0 : av} {a1 : av} {a2 : av} {st : List av} (x : Int32) (S : Sto) : run 287 j 389 [a0, a1, a2, vI x] st S = run 287 j 390 [a0, a1, a2, vI x] (vI x :: st) S := st_ rfl
set_option maxRecDepth 100000 in
theorem s287_390 {j : Nat} {a0 : av} {a1 : av} {a2 : av} {a3 : av} {st : List av} (S : Sto) : run 287 j 390 [a0, a1, a2, a3] st S = run 287 j 391 [a0, a1, a2, a3] (vI 3 :: st) S := st_ rfl
set_option maxRecDepth 100000 in
theorem s287_391 {j : Nat} {a0 : av} {a1 : av} {a2 : av} {a3 : av} {st : List av} (x y : Int32) (S : Sto) : run 287 j 391 [a0, a1, a2, a3] (vI y :: vI x :: st) S = run 287 j 392 [a0, a1, a2, a3] (vI (x + y) :: st) S := st_ rfl
set_option maxRecDepth 100000 in
theorem s287_392 {j : Nat} {a0 : av} {a1 : av} {a2 : av} {a3 : av} {st : List av} (x : Int32) (q : Nat) (S : Sto) : run 287 j 392 [a0, a1, a2, a3] (vI x :: vR 102 q :: st) S = if ib x (S.1 103 0 0).toNatClampNeg then run 287 j 393 [a0, a1, a2, a3] (vI (S.1 102 q x.toNatClampNeg) :: st) S else none := st_itN rfl
set_option maxRecDepth 100000 in
theorem s287_393 {j : Nat} {a0 : av} {a1 : av} {a2 : av} {a3 : av} (x0 : Int32) (x1 : Int32) (x2 : Int32) (x3 : Nat) (x4 : Int32) (S : Sto) : run 287 j 393 [a0, a1, a2, a3] [vI x0, vI x1, vI x2, vR 50 x3, vI x4] S = bV (call 146 0 [vR 50 x3, vI x2, vI x1, vI x0] S) (fun v S' => run 287 j 396 [a0, a1, a2, a3] (v :: [vI x4]) S') := st_cV rfl
set_option maxRecDepth 100000 in
theorem s287_396 {j : Nat} {a0 : av} {a1 : av} {a2 : av} {a3 : av} {st : List av} (x y : Int32) (S : Sto) : run 287 j 396 [a0, a1, a2, a3] (vI y :: vI x :: st) S = if x = y then run 287 j 1470 [a0, a1, a2, a3] st S else run 287 j 399 [a0, a1, a2, a3] st S := st_ite rfl
set_option maxRecDepth 100000 in
theorem s287_399 {j : Nat} {a0 : av} {a1 : av} {a2 : av} {a3 : av} {st : List av} (S : Sto) : run 287 j 399 [a0, a1, a2, a3] st S = run 287 j 400 [a0, a1, a2, a3] (vI 0 :: st) S := st_ rfl
set_option maxRecDepth 100000 in
theorem s287_400 {j : Nat} {a0 : av} {a1 : av} {a2 : av} {a3 : av} (x : Int32) (S : Sto) : run 287 j 400 [a0, a1, a2, a3] [vI x] S = if vp_nar .boolean x = x then some (some (vI x), S) else none := st_rb rfl
set_option maxRecDepth 100000 in
theorem s287_401 {j : Nat} {a0 : av} {a2 : av} {a3 : av} {st : List av} (q : Nat) (S : Sto) : run 287 j 401 [a0, vR 0 q, a2, a3] st S = run 287 j 402 [a0, vR 0 q, a2, a3] (vR 0 q :: st) S := st_ rfl
set_option maxRecDepth 100000 in
theorem s287_402 {j : Nat} {a1 : av} {a2 : av} {a3 : av} {st : List av} (q : Nat) (S : Sto) : run 287 j 402 [vR 102 q, a1, a2, a3] st S = run 287 j 403 [vR 102 q, a1, a2, a3] (vR 102 q :: st) S := st_ rfl
set_option maxRecDepth 100000 in
theorem s287_403 {j : Nat} {a0 : av} {a1 : av} {a2 : av} {st : List av} (x : Int32) (S : Sto) : run 287 j 403 [a0, a1, a2, vI x] st S = run 287 j 404 [a0, a1, a2, vI x] (vI x :: st) S := st_ rfl
set_option maxRecDepth 100000 in
theorem s287_404 {j : Nat} {a0 : av} {a1 : av} {a2 : av} {a3 : av} {st : List av} (S : Sto) : run 287 j 404 [a0, a1, a2, a3] st S = run 287 j 405 [a0, a1, a2, a3] (vI 1 :: st) S := st_ rfl
set_option maxRecDepth 100000 in
theorem s287_405 {j : Nat} {a0 : av} {a1 : av} {a2 : av} {a3 : av} {st : List av} (x y : Int32) (S : Sto) : run 287 j 405 [a0, a1, a2, a3] (vI y :: vI x :: st) S = run 287 j 406 [a0, a1, a2, a3] (vI (x + y) :: st) S := st_ rfl
set_option maxRecDepth 100000 in
theorem s287_406 {j : Nat} {a0 : av} {a1 : av} {a2 : av} {a3 : av} {st : List av} (x : Int32) (q : Nat) (S : Sto) : run 287 j 406 [a0, a1, a2, a3] (vI x :: vR 102 q :: st) S = if ib x (S.1 103 0 0).toNatClampNeg then run 287 j 407 [a0, a1, a2, a3] (vI (S.1 102 q x.toNatClampNeg) :: st) S else none := st_itN rfl
set_option maxRecDepth 100000 in
theorem s287_407 {j : Nat} {a1 : av} {a2 : av} {a3 : av} {st : List av} (q : Nat) (S : Sto) : run 287 j 407 [vR 102 q, a1, a2, a3] st S = run 287 j 408 [vR 102 q, a1, a2, a3] (vR 102 q :: st) S := st_ rfl
set_option maxRecDepth 100000 in
theorem s287_408 {j : Nat} {a0 : av} {a1 : av} {a2 : av} {st : List av} (x : Int32) (S : Sto) : run 287 j 408 [a0, a1, a2, vI x] st S = run 287 j 409 [a0, a1, a2, vI x] (vI x :: st) S := st_ rfl
set_option maxRecDepth 100000 in
theorem s287_409 {j : Nat} {a0 : av} {a1 : av} {a2 : av} {a3 : av} {st : List av} (S : Sto) : run 287 j 409 [a0, a1, a2, a3] st S = run 287 j 410 [a0, a1, a2, a3] (vI 2 :: st) S := st_ rfl
set_option maxRecDepth 100000 in
theorem s287_410 {j : Nat} {a0 : av} {a1 : av} {a2 : av} {a3 : av} {st : List av} (x y : Int32) (S : Sto) : run 287 j 410 [a0, a1, a2, a3] (vI y :: vI x :: st) S = run 287 j 411 [a0, a1, a2, a3] (vI (x + y) :: st) S := st_ rfl
set_option maxRecDepth 100000 in
theorem s287_411 {j : Nat} {a0 : av} {a1 : av} {a2 : av} {a3 : av} {st : List av} (x : Int32) (q : Nat) (S : Sto) : run 287 j 411 [a0, a1, a2, a3] (vI x :: vR 102 q :: st) S = if ib x (S.1 103 0 0).toNatClampNeg then run 287 j 412 [a0, a1, a2, a3] (vI (S.1 102 q x.toNatClampNeg) :: st) S else none := st_itN rfl
set_option maxRecDepth 100000 in
theorem s287_412 {j : Nat} {a1 : av} {a2 : av} {a3 : av} {st : List av} (q : Nat) (S : Sto) : run 287 j 412 [vR 102 q, a1, a2, a3] st S = run 287 j 413 [vR 102 q, a1, a2, a3] (vR 102 q :: st) S := st_ rfl
set_option maxRecDepth 100000 in
theorem s287_413 {j : Nat} {a0 : av} {a1 : av} {a2 : av} {st : List av} (x : Int32) (S : Sto) : run 287 j 413 [a0, a1, a2, vI x] st S = run 287 j 414 [a0, a1, a2, vI x] (vI x :: st) S := st_ rfl
set_option maxRecDepth 100000 in
theorem s287_414 {j : Nat} {a0 : av} {a1 : av} {a2 : av} {a3 : av} {st : List av} (S : Sto) : run 287 j 414 [a0, a1, a2, a3] st S = run 287 j 415 [a0, a1, a2, a3] (vI 3 :: st) S := st_ rfl
set_option maxRecDepth 100000 in
theorem s287_415 {j : Nat} {a0 : av} {a1 : av} {a2 : av} {a3 : av} {st : List av} (x y : Int32) (S : Sto) : run 287 j 415 [a0, a1, a2, a3] (vI y :: vI x :: st) S = run 287 j 416 [a0, a1, a2, a3] (vI (x + y) :: st) S := st_ rfl
set_option maxRecDepth 100000 in
theorem s287_416 {j : Nat} {a0 : av} {a1 : av} {a2 : av} {a3 : av} {st : List av} (x : Int32) (q : Nat) (S : Sto) : run 287 j 416 [a0, a1, a2, a3] (vI x :: vR 102 q :: st) S = if ib x (S.1 103 0 0).toNatClampNeg then run 287 j 417 [a0, a1, a2, a3] (vI (S.1 102 q x.toNatClampNeg) :: st) S else none := st_itN rfl
set_option maxRecDepth 100000 in
theorem s287_417 {j : Nat} {a1 : av} {a2 : av} {a3 : av} {st : List av} (q : Nat) (S : Sto) : run 287 j 417 [vR 102 q, a1, a2, a3] st S = run 287 j 418 [vR 102 q, a1, a2, a3] (vR 102 q :: st) S := st_ rfl
set_option maxRecDepth 100000 in
theorem s287_418 {j : Nat} {a0 : av} {a1 : av} {a2 : av} {st : List av} (x : Int32) (S : Sto) : run 287 j 418 [a0, a1, a2, vI x] st S = run 287 j 419 [a0, a1, a2, vI x] (vI x :: st) S := st_ rfl
set_option maxRecDepth 100000 in
theorem s287_419 {j : Nat} {a0 : av} {a1 : av} {a2 : av} {a3 : av} {st : List av} (S : Sto) : run 287 j 419 [a0, a1, a2, a3] st S = run 287 j 420 [a0, a1, a2, a3] (vI 4 :: st) S := st_ rfl
set_option maxRecDepth 100000 in
theorem s287_420 {j : Nat} {a0 : av} {a1 : av} {a2 : av} {a3 : av} {st : List av} (x y : Int32) (S : Sto) : run 287 j 420 [a0, a1, a2, a3] (vI y :: vI x :: st) S = run 287 j 421 [a0, a1, a2, a3] (vI (x + y) :: st) S := st_ rfl
set_option maxRecDepth 100000 in
theorem s287_421 {j : Nat} {a0 : av} {a1 : av} {a2 : av} {a3 : av} {st : List av} (x : Int32) (q : Nat) (S : Sto) : run 287 j 421 [a0, a1, a2, a3] (vI x :: vR 102 q :: st) S = if ib x (S.1 103 0 0).toNatClampNeg then run 287 j 422 [a0, a1, a2, a3] (vI (S.1 102 q x.toNatClampNeg) :: st) S else none := st_itN rfl
set_option maxRecDepth 100000 in
theorem s287_422 {j : Nat} {a0 : av} {a1 : av} {a2 : av} {a3 : av} (x0 : Int32) (x1 : Int32) (x2 : Int32) (x3 : Int32) (x4 : Nat) (S : Sto) : run 287 j 422 [a0, a1, a2, a3] [vI x0, vI x1, vI x2, vI x3, vR 0 x4] S = bV (call 99 0 [vR 0 x4, vI x3, vI x2, vI x1, vI x0] S) (fun v S' => run 287 j 425 [a0, a1, a2, a3] (v :: []) S') := st_cV rfl
set_option maxRecDepth 100000 in
theorem s287_425 {j : Nat} {a0 : av} {a1 : av} {a3 : av} {st : List av} (q : Nat) (S : Sto) : run 287 j 425 [a0, a1, vR 50 q, a3] st S = run 287 j 426 [a0, a1, vR 50 q, a3] (vR 50 q :: st) S := st_ rfl
set_option maxRecDepth 100000 in
theorem s287_426 {j : Nat} {a1 : av} {a2 : av} {a3 : av} {st : List av} (q : Nat) (S : Sto) : run 287 j 426 [vR 102 q, a1, a2, a3] st S = run 287 j 427 [vR 102 q, a1, a2, a3] (vR 102 q :: st) S := st_ rfl
set_option maxRecDepth 100000 in
theorem s287_427 {j : Nat} {a0 : av} {a1 : av} {a2 : av} {st : List av} (x : Int32) (S : Sto) : run 287 j 427 [a0, a1, a2, vI x] st S = run 287 j 428 [a0, a1, a2, vI x] (vI x :: st) S := st_ rfl
set_option maxRecDepth 100000 in
theorem s287_428 {j : Nat} {a0 : av} {a1 : av} {a2 : av} {a3 : av} {st : List av} (S : Sto) : run 287 j 428 [a0, a1, a2, a3] st S = run 287 j 429 [a0, a1, a2, a3] (vI 1 :: st) S := st_ rfl
set_option maxRecDepth 100000 in
theorem s287_429 {j : Nat} {a0 : av} {a1 : av} {a2 : av} {a3 : av} {st : List av} (x y : Int32) (S : Sto) : run 287 j 429 [a0, a1, a2, a3] (vI y :: vI x :: st) S = run 287 j 430 [a0, a1, a2, a3] (vI (x + y) :: st) S := st_ rfl
set_option maxRecDepth 100000 in
theorem s287_430 {j : Nat} {a0 : av} {a1 : av} {a2 : av} {a3 : av} {st : List av} (x : Int32) (q : Nat) (S : Sto) : run 287 j 430 [a0, a1, a2, a3] (vI x :: vR 102 q :: st) S = if ib x (S.1 103 0 0).toNatClampNeg then run 287 j 431 [a0, a1, a2, a3] (vI (S.1 102 q x.toNatClampNeg) :: st) S else none := st_itN rfl
set_option maxRecDepth 100000 in
theorem s287_431 {j : Nat} {a1 : av} {a2 : av} {a3 : av} {st : List av} (q : Nat) (S : Sto) : run 287 j 431 [vR 102 q, a1, a2, a3] st S = run 287 j 432 [vR 102 q, a1, a2, a3] (vR 102 q :: st) S := st_ rfl
set_option maxRecDepth 100000 in
theorem s287_432 {j : Nat} {a0 : av} {a1 : av} {a2 : av} {st : List av} (x : Int32) (S : Sto) : run 287 j 432 [a0, a1, a2, vI x] st S = run 287 j 433 [a0, a1, a2, vI x] (vI x :: st) S := st_ rfl
set_option maxRecDepth 100000 in
theorem s287_433 {j : Nat} {a0 : av} {a1 : av} {a2 : av} {a3 : av} {st : List av} (S : Sto) : run 287 j 433 [a0, a1, a2, a3] st S = run 287 j 434 [a0, a1, a2, a3] (vI 2 :: st) S := st_ rfl
set_option maxRecDepth 100000 in
theorem s287_434 {j : Nat} {a0 : av} {a1 : av} {a2 : av} {a3 : av} {st : List av} (x y : Int32) (S : Sto) : run 287 j 434 [a0, a1, a2, a3] (vI y :: vI x :: st) S = run 287 j 435 [a0, a1, a2, a3] (vI (x + y) :: st) S := st_ rfl
set_option maxRecDepth 100000 in
theorem s287_435 {j : Nat} {a0 : av} {a1 : av} {a2 : av} {a3 : av} {st : List av} (x : Int32) (q : Nat) (S : Sto) : run 287 j 435 [a0, a1, a2, a3] (vI x :: vR 102 q :: st) S = if ib x (S.1 103 0 0).toNatClampNeg then run 287 j 436 [a0, a1, a2, a3] (vI (S.1 102 q x.toNatClampNeg) :: st) S else none := st_itN rfl
set_option maxRecDepth 100000 in
theorem s287_436 {j : Nat} {a1 : av} {a2 : av} {a3 : av} {st : List av} (q : Nat) (S : Sto) : run 287 j 436 [vR 102 q, a1, a2, a3] st S = run 287 j 437 [vR 102 q, a1, a2, a3] (vR 102 q :: st) S := st_ rfl
set_option maxRecDepth 100000 in
theorem s287_437 {j : Nat} {a0 : av} {a1 : av} {a2 : av} {st : List av} (x : Int32) (S : Sto) : run 287 j 437 [a0, a1, a2, vI x] st S = run 287 j 438 [a0, a1, a2, vI x] (vI x :: st) S := st_ rfl
set_option maxRecDepth 100000 in
theorem s287_438 {j : Nat} {a0 : av} {a1 : av} {a2 : av} {a3 : av} {st : List av} (S : Sto) : run 287 j 438 [a0, a1, a2, a3] st S = run 287 j 439 [a0, a1, a2, a3] (vI 3 :: st) S := st_ rfl
set_option maxRecDepth 100000 in
theorem s287_439 {j : Nat} {a0 : av} {a1 : av} {a2 : av} {a3 : av} {st : List av} (x y : Int32) (S : Sto) : run 287 j 439 [a0, a1, a2, a3] (vI y :: vI x :: st) S = run 287 j 440 [a0, a1, a2, a3] (vI (x + y) :: st) S := st_ rfl
set_option maxRecDepth 100000 in
theorem s287_440 {j : Nat} {a0 : av} {a1 : av} {a2 : av} {a3 : av} {st : List av} (x : Int32) (q : Nat) (S : Sto) : run 287 j 440 [a0, a1, a2, a3] (vI x :: vR 102 q :: st) S = if ib x (S.1 103 0 0).toNatClampNeg then run 287 j 441 [a0, a1, a2, a3] (vI (S.1 102 q x.toNatClampNeg) :: st) S else none := st_itN rfl
set_option maxRecDepth 100000 in
theorem s287_441 {j : Nat} {a1 : av} {a2 : av} {a3 : av} {st : List av} (q : Nat) (S : Sto) : run 287 j 441 [vR 102 q, a1, a2, a3] st S = run 287 j 442 [vR 102 q, a1, a2, a3] (vR 102 q :: st) S := st_ rfl
set_option maxRecDepth 100000 in
theorem s287_442 {j : Nat} {a0 : av} {a1 : av} {a2 : av} {st : List av} (x : Int32) (S : Sto) : run 287 j 442 [a0, a1, a2, vI x] st S = run 287 j 443 [a0, a1, a2, vI x] (vI x :: st) S := st_ rfl
set_option maxRecDepth 100000 in
theorem s287_443 {j : Nat} {a0 : av} {a1 : av} {a2 : av} {a3 : av} {st : List av} (S : Sto) : run 287 j 443 [a0, a1, a2, a3] st S = run 287 j 444 [a0, a1, a2, a3] (vI 4 :: st) S := st_ rfl
set_option maxRecDepth 100000 in
theorem s287_444 {j : Nat} {a0 : av} {a1 : av} {a2 : av} {a3 : av} {st : List av} (x y : Int32) (S : Sto) : run 287 j 444 [a0, a1, a2, a3] (vI y :: vI x :: st) S = run 287 j 445 [a0, a1, a2, a3] (vI (x + y) :: st) S := st_ rfl
set_option maxRecDepth 100000 in
theorem s287_445 {j : Nat} {a0 : av} {a1 : av} {a2 : av} {a3 : av} {st : List av} (x : Int32) (q : Nat) (S : Sto) : run 287 j 445 [a0, a1, a2, a3] (vI x :: vR 102 q :: st) S = if ib x (S.1 103 0 0).toNatClampNeg then run 287 j 446 [a0, a1, a2, a3] (vI (S.1 102 q x.toNatClampNeg) :: st) S else none := st_itN rfl
set_option maxRecDepth 100000 in
theorem s287_446 {j : Nat} {a0 : av} {a1 : av} {a2 : av} {a3 : av} (x0 : Int32) (x1 : Int32) (x2 : Int32) (x3 : Int32) (x4 : Nat) (x5 : Int32) (S : Sto) : run 287 j 446 [a0, a1, a2, a3] [vI x0, vI x1, vI x2, vI x3, vR 50 x4, vI x5] S = bV (call 147 0 [vR 50 x4, vI x3, vI x2, vI x1, vI x0] S) (fun v S' => run 287 j 449 [a0, a1, a2, a3] (v :: [vI x5]) S') := st_cV rfl
set_option maxRecDepth 100000 in
theorem s287_449 {j : Nat} {a0 : av} {a1 : av} {a2 : av} {a3 : av} {st : List av} (x y : Int32) (S : Sto) : run 287 j 449 [a0, a1, a2, a3] (vI y :: vI x :: st) S = if x = y then run 287 j 1470 [a0, a1, a2, a3] st S else run 287 j 452 [a0, a1, a2, a3] st S := st_ite rfl
set_option maxRecDepth 100000 in
theorem s287_452 {j : Nat} {a0 : av} {a1 : av} {a2 : av} {a3 : av} {st : List av} (S : Sto) : run 287 j 452 [a0, a1, a2, a3] st S = run 287 j 453 [a0, a1, a2, a3] (vI 0 :: st) S := st_ rfl
set_option maxRecDepth 100000 in
theorem s287_453 {j : Nat} {a0 : av} {a1 : av} {a2 : av} {a3 : av} (x : Int32) (S : Sto) : run 287 j 453 [a0, a1, a2, a3] [vI x] S = if vp_nar .boolean x = x then some (some (vI x), S) else none := st_rb rfl
set_option maxRecDepth 100000 in
theorem s287_454 {j : Nat} {a0 : av} {a2 : av} {a3 : av} {st : List av} (q : Nat) (S : Sto) : run 287 j 454 [a0, vR 0 q, a2, a3] st S = run 287 j 455 [a0, vR 0 q, a2, a3] (vR 0 q :: st) S := st_ rfl
set_option maxRecDepth 100000 in
theorem s287_455 {j : Nat} {a1 : av} {a2 : av} {a3 : av} {st : List av} (q : Nat) (S : Sto) : run 287 j 455 [vR 102 q, a1, a2, a3] st S = run 287 j 456 [vR 102 q, a1, a2, a3] (vR 102 q :: st) S := st_ rfl
set_option maxRecDepth 100000 in
theorem s287_456 {j : Nat} {a0 : av} {a1 : av} {a2 : av} {st : List av} (x : Int32) (S : Sto) : run 287 j 456 [a0, a1, a2, vI x] st S = run 287 j 457 [a0, a1, a2, vI x] (vI x :: st) S := st_ rfl
set_option maxRecDepth 100000 in
theorem s287_457 {j : Nat} {a0 : av} {a1 : av} {a2 : av} {a3 : av} {st : List av} (S : Sto) : run 287 j 457 [a0, a1, a2, a3] st S = run 287 j 458 [a0, a1, a2, a3] (vI 1 :: st) S := st_ rfl
set_option maxRecDepth 100000 in
theorem s287_458 {j : Nat} {a0 : av} {a1 : av} {a2 : av} {a3 : av} {st : List av} (x y : Int32) (S : Sto) : run 287 j 458 [a0, a1, a2, a3] (vI y :: vI x :: st) S = run 287 j 459 [a0, a1, a2, a3] (vI (x + y) :: st) S := st_ rfl
set_option maxRecDepth 100000 in
theorem s287_459 {j : Nat} {a0 : av} {a1 : av} {a2 : av} {a3 : av} {st : List av} (x : Int32) (q : Nat) (S : Sto) : run 287 j 459 [a0, a1, a2, a3] (vI x :: vR 102 q :: st) S = if ib x (S.1 103 0 0).toNatClampNeg then run 287 j 460 [a0, a1, a2, a3] (vI (S.1 102 q x.toNatClampNeg) :: st) S else none := st_itN rfl
set_option maxRecDepth 100000 in
theorem s287_460 {j : Nat} {a1 : av} {a2 : av} {a3 : av} {st : List av} (q : Nat) (S : Sto) : run 287 j 460 [vR 102 q, a1, a2, a3] st S = run 287 j 461 [vR 102 q, a1, a2, a3] (vR 102 q :: st) S := st_ rfl
set_option maxRecDepth 100000 in
theorem s287_461 {j : Nat} {a0 : av} {a1 : av} {a2 : av} {st : List av} (x : Int32) (S : Sto) : run 287 j 461 [a0, a1, a2, vI x] st S = run 287 j 462 [a0, a1, a2, vI x] (vI x :: st) S := st_ rfl
set_option maxRecDepth 100000 in
theorem s287_462 {j : Nat} {a0 : av} {a1 : av} {a2 : av} {a3 : av} {st : List av} (S : Sto) : run 287 j 462 [a0, a1, a2, a3] st S = run 287 j 463 [a0, a1, a2, a3] (vI 2 :: st) S := st_ rfl
set_option maxRecDepth 100000 in
theorem s287_463 {j : Nat} {a0 : av} {a1 : av} {a2 : av} {a3 : av} {st : List av} (x y : Int32) (S : Sto) : run 287 j 463 [a0, a1, a2, a3] (vI y :: vI x :: st) S = run 287 j 464 [a0, a1, a2, a3] (vI (x + y) :: st) S := st_ rfl
set_option maxRecDepth 100000 in
theorem s287_464 {j : Nat} {a0 : av} {a1 : av} {a2 : av} {a3 : av} {st : List av} (x : Int32) (q : Nat) (S : Sto) : run 287 j 464 [a0, a1, a2, a3] (vI x :: vR 102 q :: st) S = if ib x (S.1 103 0 0).toNatClampNeg then run 287 j 465 [a0, a1, a2, a3] (vI (S.1 102 q x.toNatClampNeg) :: st) S else none := st_itN rfl
set_option maxRecDepth 100000 in
theorem s287_465 {j : Nat} {a1 : av} {a2 : av} {a3 : av} {st : List av} (q : Nat) (S : Sto) : run 287 j 465 [vR 102 q, a1, a2, a3] st S = run 287 j 466 [vR 102 q, a1, a2, a3] (vR 102 q :: st) S := st_ rfl
set_option maxRecDepth 100000 in
theorem s287_466 {j : Nat} {a0 : av} {a1 : av} {a2 : av} {st : List av} (x : Int32) (S : Sto) : run 287 j 466 [a0, a1, a2, vI x] st S = run 287 j 467 [a0, a1, a2, vI x] (vI x :: st) S := st_ rfl
set_option maxRecDepth 100000 in
theorem s287_467 {j : Nat} {a0 : av} {a1 : av} {a2 : av} {a3 : av} {st : List av} (S : Sto) : run 287 j 467 [a0, a1, a2, a3] st S = run 287 j 468 [a0, a1, a2, a3] (vI 3 :: st) S := st_ rfl
set_option maxRecDepth 100000 in
theorem s287_468 {j : Nat} {a0 : av} {a1 : av} {a2 : av} {a3 : av} {st : List av} (x y : Int32) (S : Sto) : run 287 j 468 [a0, a1, a2, a3] (vI y :: vI x :: st) S = run 287 j 469 [a0, a1, a2, a3] (vI (x + y) :: st) S := st_ rfl
set_option maxRecDepth 100000 in
theorem s287_469 {j : Nat} {a0 : av} {a1 : av} {a2 : av} {a3 : av} {st : List av} (x : Int32) (q : Nat) (S : Sto) : run 287 j 469 [a0, a1, a2, a3] (vI x :: vR 102 q :: st) S = if ib x (S.1 103 0 0).toNatClampNeg then run 287 j 470 [a0, a1, a2, a3] (vI (S.1 102 q x.toNatClampNeg) :: st) S else none := st_itN rfl
set_option maxRecDepth 100000 in
theorem s287_470 {j : Nat} {a1 : av} {a2 : av} {a3 : av} {st : List av} (q : Nat) (S : Sto) : run 287 j 470 [vR 102 q, a1, a2, a3] st S = run 287 j 471 [vR 102 q, a1, a2, a3] (vR 102 q :: st) S := st_ rfl
set_option maxRecDepth 100000 in
theorem s287_471 {j : Nat} {a0 : av} {a1 : av} {a2 : av} {st : List av} (x : Int32) (S : Sto) : run 287 j 471 [a0, a1, a2, vI x] st S = run 287 j 472 [a0, a1, a2, vI x] (vI x :: st) S := st_ rfl
set_option maxRecDepth 100000 in
theorem s287_472 {j : Nat} {a0 : av} {a1 : av} {a2 : av} {a3 : av} {st : List av} (S : Sto) : run 287 j 472 [a0, a1, a2, a3] st S = run 287 j 473 [a0, a1, a2, a3] (vI 4 :: st) S := st_ rfl
set_option maxRecDepth 100000 in
theorem s287_473 {j : Nat} {a0 : av} {a1 : av} {a2 : av} {a3 : av} {st : List av} (x y : Int32) (S : Sto) : run 287 j 473 [a0, a1, a2, a3] (vI y :: vI x :: st) S = run 287 j 474 [a0, a1, a2, a3] (vI (x + y) :: st) S := st_ rfl
set_option maxRecDepth 100000 in
theorem s287_474 {j : Nat} {a0 : av} {a1 : av} {a2 : av} {a3 : av} {st : List av} (x : Int32) (q : Nat) (S : Sto) : run 287 j 474 [a0, a1, a2, a3] (vI x :: vR 102 q :: st) S = if ib x (S.1 103 0 0).toNatClampNeg then run 287 j 475 [a0, a1, a2, a3] (vI (S.1 102 q x.toNatClampNeg) :: st) S else none := st_itN rfl
set_option maxRecDepth 100000 in
theorem s287_475 {j : Nat} {a1 : av} {a2 : av} {a3 : av} {st : List av} (q : Nat) (S : Sto) : run 287 j 475 [vR 102 q, a1, a2, a3] st S = run 287 j 476 [vR 102 q, a1, a2, a3] (vR 102 q :: st) S := st_ rfl
set_option maxRecDepth 100000 in
theorem s287_476 {j : Nat} {a0 : av} {a1 : av} {a2 : av} {st : List av} (x : Int32) (S : Sto) : run 287 j 476 [a0, a1, a2, vI x] st S = run 287 j 477 [a0, a1, a2, vI x] (vI x :: st) S := st_ rfl
set_option maxRecDepth 100000 in
theorem s287_477 {j : Nat} {a0 : av} {a1 : av} {a2 : av} {a3 : av} {st : List av} (S : Sto) : run 287 j 477 [a0, a1, a2, a3] st S = run 287 j 478 [a0, a1, a2, a3] (vI 5 :: st) S := st_ rfl
set_option maxRecDepth 100000 in
theorem s287_478 {j : Nat} {a0 : av} {a1 : av} {a2 : av} {a3 : av} {st : List av} (x y : Int32) (S : Sto) : run 287 j 478 [a0, a1, a2, a3] (vI y :: vI x :: st) S = run 287 j 479 [a0, a1, a2, a3] (vI (x + y) :: st) S := st_ rfl
set_option maxRecDepth 100000 in
theorem s287_479 {j : Nat} {a0 : av} {a1 : av} {a2 : av} {a3 : av} {st : List av} (x : Int32) (q : Nat) (S : Sto) : run 287 j 479 [a0, a1, a2, a3] (vI x :: vR 102 q :: st) S = if ib x (S.1 103 0 0).toNatClampNeg then run 287 j 480 [a0, a1, a2, a3] (vI (S.1 102 q x.toNatClampNeg) :: st) S else none := st_itN rfl
set_option maxRecDepth 100000 in
theorem s287_480 {j : Nat} {a0 : av} {a1 : av} {a2 : av} {a3 : av} (x0 : Int32) (x1 : Int32) (x2 : Int32) (x3 : Int32) (x4 : Int32) (x5 : Nat) (S : Sto) : run 287 j 480 [a0, a1, a2, a3] [vI x0, vI x1, vI x2, vI x3, vI x4, vR 0 x5] S = bV (call 101 0 [vR 0 x5, vI x4, vI x3, vI x2, vI x1, vI x0] S) (fun v S' => run 287 j 483 [a0, a1, a2, a3] (v :: []) S') := st_cV rfl
set_option maxRecDepth 100000 in
theorem s287_483 {j : Nat} {a0 : av} {a1 : av} {a3 : av} {st : List av} (q : Nat) (S : Sto) : run 287 j 483 [a0, a1, vR 50 q, a3] st S = run 287 j 484 [a0, a1, vR 50 q, a3] (vR 50 q :: st) S := st_ rfl
set_option maxRecDepth 100000 in
theorem s287_484 {j : Nat} {a1 : av} {a2 : av} {a3 : av} {st : List av} (q : Nat) (S : Sto) : run 287 j 484 [vR 102 q, a1, a2, a3] st S = run 287 j 485 [vR 102 q, a1, a2, a3] (vR 102 q :: st) S := st_ rfl
set_option maxRecDepth 100000 in
theorem s287_485 {j : Nat} {a0 : av} {a1 : av} {a2 : av} {st : List av} (x : Int32) (S : Sto) : run 287 j 485 [a0, a1, a2, vI x] st S = run 287 j 486 [a0, a1, a2, vI x] (vI x :: st) S := st_ rfl
set_option maxRecDepth 100000 in
theorem s287_486 {j : Nat} {a0 : av} {a1 : av} {a2 : av} {a3 : av} {st : List av} (S : Sto) : run 287 j 486 [a0, a1, a2, a3] st S = run 287 j 487 [a0, a1, a2, a3] (vI 1 :: st) S := st_ rfl
set_option maxRecDepth 100000 in
theorem s287_487 {j : Nat} {a0 : av} {a1 : av} {a2 : av} {a3 : av} {st : List av} (x y : Int32) (S : Sto) : run 287 j 487 [a0, a1, a2, a3] (vI y :: vI x :: st) S = run 287 j 488 [a0, a1, a2, a3] (vI (x + y) :: st) S := st_ rfl
set_option maxRecDepth 100000 in
theorem s287_488 {j : Nat} {a0 : av} {a1 : av} {a2 : av} {a3 : av} {st : List av} (x : Int32) (q : Nat) (S : Sto) : run 287 j 488 [a0, a1, a2, a3] (vI x :: vR 102 q :: st) S = if ib x (S.1 103 0 0).toNatClampNeg then run 287 j 489 [a0, a1, a2, a3] (vI (S.1 102 q x.toNatClampNeg) :: st) S else none := st_itN rfl
set_option maxRecDepth 100000 in
theorem s287_489 {j : Nat} {a1 : av} {a2 : av} {a3 : av} {st : List av} (q : Nat) (S : Sto) : run 287 j 489 [vR 102 q, a1, a2, a3] st S = run 287 j 490 [vR 102 q, a1, a2, a3] (vR 102 q :: st) S := st_ rfl
set_option maxRecDepth 100000 in
theorem s287_490 {j : Nat} {a0 : av} {a1 : av} {a2 : av} {st : List av} (x : Int32) (S : Sto) : run 287 j 490 [a0, a1, a2, vI x] st S = run 287 j 491 [a0, a1, a2, vI x] (vI x :: st) S := st_ rfl
set_option maxRecDepth 100000 in
theorem s287_491 {j : Nat} {a0 : av} {a1 : av} {a2 : av} {a3 : av} {st : List av} (S : Sto) : run 287 j 491 [a0, a1, a2, a3] st S = run 287 j 492 [a0, a1, a2, a3] (vI 2 :: st) S := st_ rfl
set_option maxRecDepth 100000 in
theorem s287_492 {j : Nat} {a0 : av} {a1 : av} {a2 : av} {a3 : av} {st : List av} (x y : Int32) (S : Sto) : run 287 j 492 [a0, a1, a2, a3] (vI y :: vI x :: st) S = run 287 j 493 [a0, a1, a2, a3] (vI (x + y) :: st) S := st_ rfl
set_option maxRecDepth 100000 in
theorem s287_493 {j : Nat} {a0 : av} {a1 : av} {a2 : av} {a3 : av} {st : List av} (x : Int32) (q : Nat) (S : Sto) : run 287 j 493 [a0, a1, a2, a3] (vI x :: vR 102 q :: st) S = if ib x (S.1 103 0 0).toNatClampNeg then run 287 j 494 [a0, a1, a2, a3] (vI (S.1 102 q x.toNatClampNeg) :: st) S else none := st_itN rfl
set_option maxRecDepth 100000 in
theorem s287_494 {j : Nat} {a1 : av} {a2 : av} {a3 : av} {st : List av} (q : Nat) (S : Sto) : run 287 j 494 [vR 102 q, a1, a2, a3] st S = run 287 j 495 [vR 102 q, a1, a2, a3] (vR 102 q :: st) S := st_ rfl
set_option maxRecDepth 100000 in
theorem s287_495 {j : Nat} {a0 : av} {a1 : av} {a2 : av} {st : List av} (x : Int32) (S : Sto) : run 287 j 495 [a0, a1, a2, vI x] st S = run 287 j 496 [a0, a1, a2, vI x] (vI x :: st) S := st_ rfl
set_option maxRecDepth 100000 in
theorem s287_496 {j : Nat} {a0 : av} {a1 : av} {a2 : av} {a3 : av} {st : List av} (S : Sto) : run 287 j 496 [a0, a1, a2, a3] st S = run 287 j 497 [a0, a1, a2, a3] (vI 3 :: st) S := st_ rfl
set_option maxRecDepth 100000 in
theorem s287_497 {j : Nat} {a0 : av} {a1 : av} {a2 : av} {a3 : av} {st : List av} (x y : Int32) (S : Sto) : run 287 j 497 [a0, a1, a2, a3] (vI y :: vI x :: st) S = run 287 j 498 [a0, a1, a2, a3] (vI (x + y) :: st) S := st_ rfl
set_option maxRecDepth 100000 in
theorem s287_498 {j : Nat} {a0 : av} {a1 : av} {a2 : av} {a3 : av} {st : List av} (x : Int32) (q : Nat) (S : Sto) : run 287 j 498 [a0, a1, a2, a3] (vI x :: vR 102 q :: st) S = if ib x (S.1 103 0 0).toNatClampNeg then run 287 j 499 [a0, a1, a2, a3] (vI (S.1 102 q x.toNatClampNeg) :: st) S else none := st_itN rfl
set_option maxRecDepth 100000 in
theorem s287_499 {j : Nat} {a1 : av} {a2 : av} {a3 : av} {st : List av} (q : Nat) (S : Sto) : run 287 j 499 [vR 102 q, a1, a2, a3] st S = run 287 j 500 [vR 102 q, a1, a2, a3] (vR 102 q :: st) S := st_ rfl
set_option maxRecDepth 100000 in
theorem s287_500 {j : Nat} {a0 : av} {a1 : av} {a2 : av} {st : List av} (x : Int32) (S : Sto) : run 287 j 500 [a0, a1, a2, vI x] st S = run 287 j 501 [a0, a1, a2, vI x] (vI x :: st) S := st_ rfl
set_option maxRecDepth 100000 in
theorem s287_501 {j : Nat} {a0 : av} {a1 : av} {a2 : av} {a3 : av} {st : List av} (S : Sto) : run 287 j 501 [a0, a1, a2, a3] st S = run 287 j 502 [a0, a1, a2, a3] (vI 4 :: st) S := st_ rfl
set_option maxRecDepth 100000 in
theorem s287_502 {j : Nat} {a0 : av} {a1 : av} {a2 : av} {a3 : av} {st : List av} (x y : Int32) (S : Sto) : run 287 j 502 [a0, a1, a2, a3] (vI y :: vI x :: st) S = run 287 j 503 [a0, a1, a2, a3] (vI (x + y) :: st) S := st_ rfl
set_option maxRecDepth 100000 in
theorem s287_503 {j : Nat} {a0 : av} {a1 : av} {a2 : av} {a3 : av} {st : List av} (x : Int32) (q : Nat) (S : Sto) : run 287 j 503 [a0, a1, a2, a3] (vI x :: vR 102 q :: st) S = if ib x (S.1 103 0 0).toNatClampNeg then run 287 j 504 [a0, a1, a2, a3] (vI (S.1 102 q x.toNatClampNeg) :: st) S else none := st_itN rfl
set_option maxRecDepth 100000 in
theorem s287_504 {j : Nat} {a1 : av} {a2 : av} {a3 : av} {st : List av} (q : Nat) (S : Sto) : run 287 j 504 [vR 102 q, a1, a2, a3] st S = run 287 j 505 [vR 102 q, a1, a2, a3] (vR 102 q :: st) S := st_ rfl
set_option maxRecDepth 100000 in
theorem s287_505 {j : Nat} {a0 : av} {a1 : av} {a2 : av} {st : List av} (x : Int32) (S : Sto) : run 287 j 505 [a0, a1, a2, vI x] st S = run 287 j 506 [a0, a1, a2, vI x] (vI x :: st) S := st_ rfl
set_option maxRecDepth 100000 in
theorem s287_506 {j : Nat} {a0 : av} {a1 : av} {a2 : av} {a3 : av} {st : List av} (S : Sto) : run 287 j 506 [a0, a1, a2, a3] st S = run 287 j 507 [a0, a1, a2, a3] (vI 5 :: st) S := st_ rfl
set_option maxRecDepth 100000 in
theorem s287_507 {j : Nat} {a0 : av} {a1 : av} {a2 : av} {a3 : av} {st : List av} (x y : Int32) (S : Sto) : run 287 j 507 [a0, a1, a2, a3] (vI y :: vI x :: st) S = run 287 j 508 [a0, a1, a2, a3] (vI (x + y) :: st) S := st_ rfl
set_option maxRecDepth 100000 in
theorem s287_508 {j : Nat} {a0 : av} {a1 : av} {a2 : av} {a3 : av} {st : List av} (x : Int32) (q : Nat) (S : Sto) : run 287 j 508 [a0, a1, a2, a3] (vI x :: vR 102 q :: st) S = if ib x (S.1 103 0 0).toNatClampNeg then run 287 j 509 [a0, a1, a2, a3] (vI (S.1 102 q x.toNatClampNeg) :: st) S else none := st_itN rfl
set_option maxRecDepth 100000 in
theorem s287_509 {j : Nat} {a0 : av} {a1 : av} {a2 : av} {a3 : av} (x0 : Int32) (x1 : Int32) (x2 : Int32) (x3 : Int32) (x4 : Int32) (x5 : Nat) (x6 : Int32) (S : Sto) : run 287 j 509 [a0, a1, a2, a3] [vI x0, vI x1, vI x2, vI x3, vI x4, vR 50 x5, vI x6] S = bV (call 165 0 [vR 50 x5, vI x4, vI x3, vI x2, vI x1, vI x0] S) (fun v S' => run 287 j 512 [a0, a1, a2, a3] (v :: [vI x6]) S') := st_cV rfl
set_option maxRecDepth 100000 in
theorem s287_512 {j : Nat} {a0 : av} {a1 : av} {a2 : av} {a3 : av} {st : List av} (x y : Int32) (S : Sto) : run 287 j 512 [a0, a1, a2, a3] (vI y :: vI x :: st) S = if x = y then run 287 j 1470 [a0, a1, a2, a3] st S else run 287 j 515 [a0, a1, a2, a3] st S := st_ite rfl
set_option maxRecDepth 100000 in
theorem s287_515 {j : Nat} {a0 : av} {a1 : av} {a2 : av} {a3 : av} {st : List av} (S : Sto) : run 287 j 515 [a0, a1, a2, a3] st S = run 287 j 516 [a0, a1, a2, a3] (vI 0 :: st) S := st_ rfl
set_option maxRecDepth 100000 in
theorem s287_516 {j : Nat} {a0 : av} {a1 : av} {a2 : av} {a3 : av} (x : Int32) (S : Sto) : run 287 j 516 [a0, a1, a2, a3] [vI x] S = if vp_nar .boolean x = x then some (some (vI x), S) else none := st_rb rfl
set_option maxRecDepth 100000 in
theorem s287_517 {j : Nat} {a0 : av} {a2 : av} {a3 : av} {st : List av} (q : Nat) (S : Sto) : run 287 j 517 [a0, vR 0 q, a2, a3] st S = run 287 j 518 [a0, vR 0 q, a2, a3] (vR 0 q :: st) S := st_ rfl
set_option maxRecDepth 100000 in
theorem s287_518 {j : Nat} {a1 : av} {a2 : av} {a3 : av} {st : List av} (q : Nat) (S : Sto) : run 287 j 518 [vR 102 q, a1, a2, a3] st S = run 287 j 519 [vR 102 q, a1, a2, a3] (vR 102 q :: st) S := st_ rfl
set_option maxRecDepth 100000 in
theorem s287_519 {j : Nat} {a0 : av} {a1 : av} {a2 : av} {st : List av} (x : Int32) (S : Sto) : run 287 j 519 [a0, a1, a2, vI x] st S = run 287 j 520 [a0, a1, a2, vI x] (vI x :: st) S := st_ rfl
set_option maxRecDepth 100000 in
theorem s287_520 {j : Nat} {a0 : av} {a1 : av} {a2 : av} {a3 : av} {st : List av} (S : Sto) : run 287 j 520 [a0, a1, a2, a3] st S = run 287 j 521 [a0, a1, a2, a3] (vI 1 :: st) S := st_ rfl
set_option maxRecDepth 100000 in
theorem s287_521 {j : Nat} {a0 : av} {a1 : av} {a2 : av} {a3 : av} {st : List av} (x y : Int32) (S : Sto) : run 287 j 521 [a0, a1, a2, a3] (vI y :: vI x :: st) S = run 287 j 522 [a0, a1, a2, a3] (vI (x + y) :: st) S := st_ rfl
set_option maxRecDepth 100000 in
theorem s287_522 {j : Nat} {a0 : av} {a1 : av} {a2 : av} {a3 : av} {st : List av} (x : Int32) (q : Nat) (S : Sto) : run 287 j 522 [a0, a1, a2, a3] (vI x :: vR 102 q :: st) S = if ib x (S.1 103 0 0).toNatClampNeg then run 287 j 523 [a0, a1, a2, a3] (vI (S.1 102 q x.toNatClampNeg) :: st) S else none := st_itN rfl
set_option maxRecDepth 100000 in
theorem s287_523 {j : Nat} {a0 : av} {a1 : av} {a2 : av} {a3 : av} (x0 : Int32) (x1 : Nat) (S : Sto) : run 287 j 523 [a0, a1, a2, a3] [vI x0, vR 0 x1] S = bV (call 102 0 [vR 0 x1, vI x0] S) (fun v S' => run 287 j 526 [a0, a1, a2, a3] (v :: []) S') := st_cV rfl
set_option maxRecDepth 100000 in
theorem s287_526 {j : Nat} {a0 : av} {a1 : av} {a3 : av} {st : List av} (q : Nat) (S : Sto) : run 287 j 526 [a0, a1, vR 50 q, a3] st S = run 287 j 527 [a0, a1, vR 50 q, a3] (vR 50 q :: st) S := st_ rfl
set_option maxRecDepth 100000 in
theorem s287_527 {j : Nat} {a1 : av} {a2 : av} {a3 : av} {st : List av} (q : Nat) (S : Sto) : run 287 j 527 [vR 102 q, a1, a2, a3] st S = run 287 j 528 [vR 102 q, a1, a2, a3] (vR 102 q :: st) S := st_ rfl
set_option maxRecDepth 100000 in
theorem s287_528 {j : Nat} {a0 : av} {a1 : av} {a2 : av} {st : List av} (x : Int32) (S : Sto) : run 287 j 528 [a0, a1, a2, vI x] st S = run 287 j 529 [a0, a1, a2, vI x] (vI x :: st) S := st_ rfl
set_option maxRecDepth 100000 in
theorem s287_529 {j : Nat} {a0 : av} {a1 : av} {a2 : av} {a3 : av} {st : List av} (S : Sto) : run 287 j 529 [a0, a1, a2, a3] st S = run 287 j 530 [a0, a1, a2, a3] (vI 1 :: st) S := st_ rfl
set_option maxRecDepth 100000 in
theorem s287_530 {j : Nat} {a0 : av} {a1 : av} {a2 : av} {a3 : av} {st : List av} (x y : Int32) (S : Sto) : run 287 j 530 [a0, a1, a2, a3] (vI y :: vI x :: st) S = run 287 j 531 [a0, a1, a2, a3] (vI (x + y) :: st) S := st_ rfl
set_option maxRecDepth 100000 in
theorem s287_531 {j : Nat} {a0 : av} {a1 : av} {a2 : av} {a3 : av} {st : List av} (x : Int32) (q : Nat) (S : Sto) : run 287 j 531 [a0, a1, a2, a3] (vI x :: vR 102 q :: st) S = if ib x (S.1 103 0 0).toNatClampNeg then run 287 j 532 [a0, a1, a2, a3] (vI (S.1 102 q x.toNatClampNeg) :: st) S else none := st_itN rfl
set_option maxRecDepth 100000 in
theorem s287_532 {j : Nat} {a0 : av} {a1 : av} {a2 : av} {a3 : av} (x0 : Int32) (x1 : Nat) (x2 : Int32) (S : Sto) : run 287 j 532 [a0, a1, a2, a3] [vI x0, vR 50 x1, vI x2] S = bV (call 167 0 [vR 50 x1, vI x0] S) (fun v S' => run 287 j 535 [a0, a1, a2, a3] (v :: [vI x2]) S') := st_cV rfl
set_option maxRecDepth 100000 in
theorem s287_535 {j : Nat} {a0 : av} {a1 : av} {a2 : av} {a3 : av} {st : List av} (x y : Int32) (S : Sto) : run 287 j 535 [a0, a1, a2, a3] (vI y :: vI x :: st) S = if x = y then run 287 j 1470 [a0, a1, a2, a3] st S else run 287 j 538 [a0, a1, a2, a3] st S := st_ite rfl
set_option maxRecDepth 100000 in
theorem s287_538 {j : Nat} {a0 : av} {a1 : av} {a2 : av} {a3 : av} {st : List av} (S : Sto) : run 287 j 538 [a0, a1, a2, a3] st S = run 287 j 539 [a0, a1, a2, a3] (vI 0 :: st) S := st_ rfl
set_option maxRecDepth 100000 in
theorem s287_539 {j : Nat} {a0 : av} {a1 : av} {a2 : av} {a3 : av} (x : Int32) (S : Sto) : run 287 j 539 [a0, a1, a2, a3] [vI x] S = if vp_nar .boolean x = x then some (some (vI x), S) else none := st_rb rfl
set_option maxRecDepth 100000 in
theorem s287_540 {j : Nat} {a0 : av} {a2 : av} {a3 : av} {st : List av} (q : Nat) (S : Sto) : run 287 j 540 [a0, vR 0 q, a2, a3] st S = run 287 j 541 [a0, vR 0 q, a2, a3] (vR 0 q :: st) S := st_ rfl
set_option maxRecDepth 100000 in
theorem s287_541 {j : Nat} {a0 : av} {a1 : av} {a2 : av} {a3 : av} (x0 : Nat) (S : Sto) : run 287 j 541 [a0, a1, a2, a3] [vR 0 x0] S = bV (call 103 0 [vR 0 x0] S) (fun v S' => run 287 j 544 [a0, a1, a2, a3] (v :: []) S') := st_cV rfl
set_option maxRecDepth 100000 in
theorem s287_544 {j : Nat} {a0 : av} {a1 : av} {a3 : av} {st : List av} (q : Nat) (S : Sto) : run 287 j 544 [a0, a1, vR 50 q, a3] st S = run 287 j 545 [a0, a1, vR 50 q, a3] (vR 50 q :: st) S := st_ rfl
set_option maxRecDepth 100000 in
theorem s287_545 {j : Nat} {a0 : av} {a1 : av} {a2 : av} {a3 : av} (x0 : Nat) (x1 : Int32) (S : Sto) : run 287 j 545 [a0, a1, a2, a3] [vR 50 x0, vI x1] S = bV (call 168 0 [vR 50 x0] S) (fun v S' => run 287 j 548 [a0, a1, a2, a3] (v :: [vI x1]) S') := st_cV rfl
set_option maxRecDepth 100000 in
theorem s287_548 {j : Nat} {a0 : av} {a1 : av} {a2 : av} {a3 : av} {st : List av} (x y : Int32) (S : Sto) : run 287 j 548 [a0, a1, a2, a3] (vI y :: vI x :: st) S = if x = y then run 287 j 1470 [a0, a1, a2, a3] st S else run 287 j 551 [a0, a1, a2, a3] st S := st_ite rfl
set_option maxRecDepth 100000 in
theorem s287_551 {j : Nat} {a0 : av} {a1 : av} {a2 : av} {a3 : av} {st : List av} (S : Sto) : run 287 j 551 [a0, a1, a2, a3] st S = run 287 j 552 [a0, a1, a2, a3] (vI 0 :: st) S := st_ rfl
set_option maxRecDepth 100000 in
theorem s287_552 {j : Nat} {a0 : av} {a1 : av} {a2 : av} {a3 : av} (x : Int32) (S : Sto) : run 287 j 552 [a0, a1, a2, a3] [vI x] S = if vp_nar .boolean x = x then some (some (vI x), S) else none := st_rb rfl
set_option maxRecDepth 100000 in
theorem s287_553 {j : Nat} {a0 : av} {a2 : av} {a3 : av} {st : List av} (q : Nat) (S : Sto) : run 287 j 553 [a0, vR 0 q, a2, a3] st S = run 287 j 554 [a0, vR 0 q, a2, a3] (vR 0 q :: st) S := st_ rfl
set_option maxRecDepth 100000 in
theorem s287_554 {j : Nat} {a1 : av} {a2 : av} {a3 : av} {st : List av} (q : Nat) (S : Sto) : run 287 j 554 [vR 102 q, a1, a2, a3] st S = run 287 j 555 [vR 102 q, a1, a2, a3] (vR 102 q :: st) S := st_ rfl
set_option maxRecDepth 100000 in
theorem s287_555 {j : Nat} {a0 : av} {a1 : av} {a2 : av} {st : List av} (x : Int32) (S : Sto) : run 287 j 555 [a0, a1, a2, vI x] st S = run 287 j 556 [a0, a1, a2, vI x] (vI x :: st) S := st_ rfl
set_option maxRecDepth 100000 in
theorem s287_556 {j : Nat} {a0 : av} {a1 : av} {a2 : av} {a3 : av} {st : List av} (S : Sto) : run 287 j 556 [a0, a1, a2, a3] st S = run 287 j 557 [a0, a1, a2, a3] (vI 1 :: st) S := st_ rfl
set_option maxRecDepth 100000 in
theorem s287_557 {j : Nat} {a0 : av} {a1 : av} {a2 : av} {a3 : av} {st : List av} (x y : Int32) (S : Sto) : run 287 j 557 [a0, a1, a2, a3] (vI y :: vI x :: st) S = run 287 j 558 [a0, a1, a2, a3] (vI (x + y) :: st) S := st_ rfl
set_option maxRecDepth 100000 in
theorem s287_558 {j : Nat} {a0 : av} {a1 : av} {a2 : av} {a3 : av} {st : List av} (x : Int32) (q : Nat) (S : Sto) : run 287 j 558 [a0, a1, a2, a3] (vI x :: vR 102 q :: st) S = if ib x (S.1 103 0 0).toNatClampNeg then run 287 j 559 [a0, a1, a2, a3] (vI (S.1 102 q x.toNatClampNeg) :: st) S else none := st_itN rfl
set_option maxRecDepth 100000 in
theorem s287_559 {j : Nat} {a1 : av} {a2 : av} {a3 : av} {st : List av} (q : Nat) (S : Sto) : run 287 j 559 [vR 102 q, a1, a2, a3] st S = run 287 j 560 [vR 102 q, a1, a2, a3] (vR 102 q :: st) S := st_ rfl
set_option maxRecDepth 100000 in
theorem s287_560 {j : Nat} {a0 : av} {a1 : av} {a2 : av} {st : List av} (x : Int32) (S : Sto) : run 287 j 560 [a0, a1, a2, vI x] st S = run 287 j 561 [a0, a1, a2, vI x] (vI x :: st) S := st_ rfl
set_option maxRecDepth 100000 in
theorem s287_561 {j : Nat} {a0 : av} {a1 : av} {a2 : av} {a3 : av} {st : List av} (S : Sto) : run 287 j 561 [a0, a1, a2, a3] st S = run 287 j 562 [a0, a1, a2, a3] (vI 2 :: st) S := st_ rfl
set_option maxRecDepth 100000 in
theorem s287_562 {j : Nat} {a0 : av} {a1 : av} {a2 : av} {a3 : av} {st : List av} (x y : Int32) (S : Sto) : run 287 j 562 [a0, a1, a2, a3] (vI y :: vI x :: st) S = run 287 j 563 [a0, a1, a2, a3] (vI (x + y) :: st) S := st_ rfl
set_option maxRecDepth 100000 in
theorem s287_563 {j : Nat} {a0 : av} {a1 : av} {a2 : av} {a3 : av} {st : List av} (x : Int32) (q : Nat) (S : Sto) : run 287 j 563 [a0, a1, a2, a3] (vI x :: vR 102 q :: st) S = if ib x (S.1 103 0 0).toNatClampNeg then run 287 j 564 [a0, a1, a2, a3] (vI (S.1 102 q x.toNatClampNeg) :: st) S else none := st_itN rfl
set_option maxRecDepth 100000 in
theorem s287_564 {j : Nat} {a0 : av} {a1 : av} {a2 : av} {a3 : av} (x0 : Int32) (x1 : Int32) (x2 : Nat) (S : Sto) : run 287 j 564 [a0, a1, a2, a3] [vI x0, vI x1, vR 0 x2] S = bV (call 104 0 [vR 0 x2, vI x1, vI x0] S) (fun v S' => run 287 j 567 [a0, a1, a2, a3] (v :: []) S') := st_cV rfl
set_option maxRecDepth 100000 in
theorem s287_567 {j : Nat} {a0 : av} {a1 : av} {a3 : av} {st : List av} (q : Nat) (S : Sto) : run 287 j 567 [a0, a1, vR 50 q, a3] st S = run 287 j 568 [a0, a1, vR 50 q, a3] (vR 50 q :: st) S := st_ rfl
set_option maxRecDepth 100000 in
theorem s287_568 {j : Nat} {a1 : av} {a2 : av} {a3 : av} {st : List av} (q : Nat) (S : Sto) : run 287 j 568 [vR 102 q, a1, a2, a3] st S = run 287 j 569 [vR 102 q, a1, a2, a3] (vR 102 q :: st) S := st_ rfl
set_option maxRecDepth 100000 in
theorem s287_569 {j : Nat} {a0 : av} {a1 : av} {a2 : av} {st : List av} (x : Int32) (S : Sto) : run 287 j 569 [a0, a1, a2, vI x] st S = run 287 j 570 [a0, a1, a2, vI x] (vI x :: st) S := st_ rfl
set_option maxRecDepth 100000 in
theorem s287_570 {j : Nat} {a0 : av} {a1 : av} {a2 : av} {a3 : av} {st : List av} (S : Sto) : run 287 j 570 [a0, a1, a2, a3] st S = run 287 j 571 [a0, a1, a2, a3] (vI 1 :: st) S := st_ rfl
set_option maxRecDepth 100000 in
theorem s287_571 {j : Nat} {a0 : av} {a1 : av} {a2 : av} {a3 : av} {st : List av} (x y : Int32) (S : Sto) : run 287 j 571 [a0, a1, a2, a3] (vI y :: vI x :: st) S = run 287 j 572 [a0, a1, a2, a3] (vI (x + y) :: st) S := st_ rfl
set_option maxRecDepth 100000 in
theorem s287_572 {j : Nat} {a0 : av} {a1 : av} {a2 : av} {a3 : av} {st : List av} (x : Int32) (q : Nat) (S : Sto) : run 287 j 572 [a0, a1, a2, a3] (vI x :: vR 102 q :: st) S = if ib x (S.1 103 0 0).toNatClampNeg then run 287 j 573 [a0, a1, a2, a3] (vI (S.1 102 q x.toNatClampNeg) :: st) S else none := st_itN rfl
set_option maxRecDepth 100000 in
theorem s287_573 {j : Nat} {a1 : av} {a2 : av} {a3 : av} {st : List av} (q : Nat) (S : Sto) : run 287 j 573 [vR 102 q, a1, a2, a3] st S = run 287 j 574 [vR 102 q, a1, a2, a3] (vR 102 q :: st) S := st_ rfl
set_option maxRecDepth 100000 in
theorem s287_574 {j : Nat} {a0 : av} {a1 : av} {a2 : av} {st : List av} (x : Int32) (S : Sto) : run 287 j 574 [a0, a1, a2, vI x] st S = run 287 j 575 [a0, a1, a2, vI x] (vI x :: st) S := st_ rfl
set_option maxRecDepth 100000 in
theorem s287_575 {j : Nat} {a0 : av} {a1 : av} {a2 : av} {a3 : av} {st : List av} (S : Sto) : run 287 j 575 [a0, a1, a2, a3] st S = run 287 j 576 [a0, a1, a2, a3] (vI 2 :: st) S := st_ rfl
set_option maxRecDepth 100000 in
theorem s287_576 {j : Nat} {a0 : av} {a1 : av} {a2 : av} {a3 : av} {st : List av} (x y : Int32) (S : Sto) : run 287 j 576 [a0, a1, a2, a3] (vI y :: vI x :: st) S = run 287 j 577 [a0, a1, a2, a3] (vI (x + y) :: st) S := st_ rfl
set_option maxRecDepth 100000 in
theorem s287_577 {j : Nat} {a0 : av} {a1 : av} {a2 : av} {a3 : av} {st : List av} (x : Int32) (q : Nat) (S : Sto) : run 287 j 577 [a0, a1, a2, a3] (vI x :: vR 102 q :: st) S = if ib x (S.1 103 0 0).toNatClampNeg then run 287 j 578 [a0, a1, a2, a3] (vI (S.1 102 q x.toNatClampNeg) :: st) S else none := st_itN rfl
set_option maxRecDepth 100000 in
theorem s287_578 {j : Nat} {a0 : av} {a1 : av} {a2 : av} {a3 : av} (x0 : Int32) (x1 : Int32) (x2 : Nat) (x3 : Int32) (S : Sto) : run 287 j 578 [a0, a1, a2, a3] [vI x0, vI x1, vR 50 x2, vI x3] S = bV (call 149 0 [vR 50 x2, vI x1, vI x0] S) (fun v S' => run 287 j 581 [a0, a1, a2, a3] (v :: [vI x3]) S') := st_cV rfl
set_option maxRecDepth 100000 in
theorem s287_581 {j : Nat} {a0 : av} {a1 : av} {a2 : av} {a3 : av} {st : List av} (x y : Int32) (S : Sto) : run 287 j 581 [a0, a1, a2, a3] (vI y :: vI x :: st) S = if x = y then run 287 j 1470 [a0, a1, a2, a3] st S else run 287 j 584 [a0, a1, a2, a3] st S := st_ite rfl
set_option maxRecDepth 100000 in
theorem s287_584 {j : Nat} {a0 : av} {a1 : av} {a2 : av} {a3 : av} {st : List av} (S : Sto) : run 287 j 584 [a0, a1, a2, a3] st S = run 287 j 585 [a0, a1, a2, a3] (vI 0 :: st) S := st_ rfl
set_option maxRecDepth 100000 in
theorem s287_585 {j : Nat} {a0 : av} {a1 : av} {a2 : av} {a3 : av} (x : Int32) (S : Sto) : run 287 j 585 [a0, a1, a2, a3] [vI x] S = if vp_nar .boolean x = x then some (some (vI x), S) else none := st_rb rfl
set_option maxRecDepth 100000 in
theorem s287_586 {j : Nat} {a0 : av} {a2 : av} {a3 : av} {st : List av} (q : Nat) (S : Sto) : run 287 j 586 [a0, vR 0 q, a2, a3] st S = run 287 j 587 [a0, vR 0 q, a2, a3] (vR 0 q :: st) S := st_ rfl
set_option maxRecDepth 100000 in
theorem s287_587 {j : Nat} {a1 : av} {a2 : av} {a3 : av} {st : List av} (q : Nat) (S : Sto) : run 287 j 587 [vR 102 q, a1, a2, a3] st S = run 287 j 588 [vR 102 q, a1, a2, a3] (vR 102 q :: st) S := st_ rfl
set_option maxRecDepth 100000 in
theorem s287_588 {j : Nat} {a0 : av} {a1 : av} {a2 : av} {st : List av} (x : Int32) (S : Sto) : run 287 j 588 [a0, a1, a2, vI x] st S = run 287 j 589 [a0, a1, a2, vI x] (vI x :: st) S := st_ rfl
set_option maxRecDepth 100000 in
theorem s287_589 {j : Nat} {a0 : av} {a1 : av} {a2 : av} {a3 : av} {st : List av} (S : Sto) : run 287 j 589 [a0, a1, a2, a3] st S = run 287 j 590 [a0, a1, a2, a3] (vI 1 :: st) S := st_ rfl
set_option maxRecDepth 100000 in
theorem s287_590 {j : Nat} {a0 : av} {a1 : av} {a2 : av} {a3 : av} {st : List av} (x y : Int32) (S : Sto) : run 287 j 590 [a0, a1, a2, a3] (vI y :: vI x :: st) S = run 287 j 591 [a0, a1, a2, a3] (vI (x + y) :: st) S := st_ rfl
set_option maxRecDepth 100000 in
theorem s287_591 {j : Nat} {a0 : av} {a1 : av} {a2 : av} {a3 : av} {st : List av} (x : Int32) (q : Nat) (S : Sto) : run 287 j 591 [a0, a1, a2, a3] (vI x :: vR 102 q :: st) S = if ib x (S.1 103 0 0).toNatClampNeg then run 287 j 592 [a0, a1, a2, a3] (vI (S.1 102 q x.toNatClampNeg) :: st) S else none := st_itN rfl
set_option maxRecDepth 100000 in
theorem s287_592 {j : Nat} {a1 : av} {a2 : av} {a3 : av} {st : List av} (q : Nat) (S : Sto) : run 287 j 592 [vR 102 q, a1, a2, a3] st S = run 287 j 593 [vR 102 q, a1, a2, a3] (vR 102 q :: st) S := st_ rfl
set_option maxRecDepth 100000 in
theorem s287_593 {j : Nat} {a0 : av} {a1 : av} {a2 : av} {st : List av} (x : Int32) (S : Sto) : run 287 j 593 [a0, a1, a2, vI x] st S = run 287 j 594 [a0, a1, a2, vI x] (vI x :: st) S := st_ rfl
set_option maxRecDepth 100000 in
theorem s287_594 {j : Nat} {a0 : av} {a1 : av} {a2 : av} {a3 : av} {st : List av} (S : Sto) : run 287 j 594 [a0, a1, a2, a3] st S = run 287 j 595 [a0, a1, a2, a3] (vI 2 :: st) S := st_ rfl
set_option maxRecDepth 100000 in
theorem s287_595 {j : Nat} {a0 : av} {a1 : av} {a2 : av} {a3 : av} {st : List av} (x y : Int32) (S : Sto) : run 287 j 595 [a0, a1, a2, a3] (vI y :: vI x :: st) S = run 287 j 596 [a0, a1, a2, a3] (vI (x + y) :: st) S := st_ rfl
set_option maxRecDepth 100000 in
theorem s287_596 {j : Nat} {a0 : av} {a1 : av} {a2 : av} {a3 : av} {st : List av} (x : Int32) (q : Nat) (S : Sto) : run 287 j 596 [a0, a1, a2, a3] (vI x :: vR 102 q :: st) S = if ib x (S.1 103 0 0).toNatClampNeg then run 287 j 597 [a0, a1, a2, a3] (vI (S.1 102 q x.toNatClampNeg) :: st) S else none := st_itN rfl
set_option maxRecDepth 100000 in
theorem s287_597 {j : Nat} {a1 : av} {a2 : av} {a3 : av} {st : List av} (q : Nat) (S : Sto) : run 287 j 597 [vR 102 q, a1, a2, a3] st S = run 287 j 598 [vR 102 q, a1, a2, a3] (vR 102 q :: st) S := st_ rfl
set_option maxRecDepth 100000 in
theorem s287_598 {j : Nat} {a0 : av} {a1 : av} {a2 : av} {st : List av} (x : Int32) (S : Sto) : run 287 j 598 [a0, a1, a2, vI x] st S = run 287 j 599 [a0, a1, a2, vI x] (vI x :: st) S := st_ rfl
set_option maxRecDepth 100000 in
theorem s287_599 {j : Nat} {a0 : av} {a1 : av} {a2 : av} {a3 : av} {st : List av} (S : Sto) : run 287 j 599 [a0, a1, a2, a3] st S = run 287 j 600 [a0, a1, a2, a3] (vI 3 :: st) S := st_ rfl
set_option maxRecDepth 100000 in
theorem s287_600 {j : Nat} {a0 : av} {a1 : av} {a2 : av} {a3 : av} {st : List av} (x y : Int32) (S : Sto) : run 287 j 600 [a0, a1, a2, a3] (vI y :: vI x :: st) S = run 287 j 601 [a0, a1, a2, a3] (vI (x + y) :: st) S := st_ rfl
set_option maxRecDepth 100000 in
theorem s287_601 {j : Nat} {a0 : av} {a1 : av} {a2 : av} {a3 : av} {st : List av} (x : Int32) (q : Nat) (S : Sto) : run 287 j 601 [a0, a1, a2, a3] (vI x :: vR 102 q :: st) S = if ib x (S.1 103 0 0).toNatClampNeg then run 287 j 602 [a0, a1, a2, a3] (vI (S.1 102 q x.toNatClampNeg) :: st) S else none := st_itN rfl
set_option maxRecDepth 100000 in
theorem s287_602 {j : Nat} {a0 : av} {a1 : av} {a2 : av} {a3 : av} (x0 : Int32) (x1 : Int32) (x2 : Int32) (x3 : Nat) (S : Sto) : run 287 j 602 [a0, a1, a2, a3] [vI x0, vI x1, vI x2, vR 0 x3] S = bV (call 105 0 [vR 0 x3, vI x2, vI x1, vI x0] S) (fun v S' => run 287 j 605 [a0, a1, a2, a3] (v :: []) S') := st_cV rfl
set_option maxRecDepth 100000 in
theorem s287_605 {j : Nat} {a0 : av} {a1 : av} {a3 : av} {st : List av} (q : Nat) (S : Sto) : run 287 j 605 [a0, a1, vR 50 q, a3] st S = run 287 j 606 [a0, a1, vR 50 q, a3] (vR 50 q :: st) S := st_ rfl
set_option maxRecDepth 100000 in
theorem s287_606 {j : Nat} {a1 : av} {a2 : av} {a3 : av} {st : List av} (q : Nat) (S : Sto) : run 287 j 606 [vR 102 q, a1, a2, a3] st S = run 287 j 607 [vR 102 q, a1, a2, a3] (vR 102 q :: st) S := st_ rfl
set_option maxRecDepth 100000 in
theorem s287_607 {j : Nat} {a0 : av} {a1 : av} {a2 : av} {st : List av} (x : Int32) (S : Sto) : run 287 j 607 [a0, a1, a2, vI x] st S = run 287 j 608 [a0, a1, a2, vI x] (vI x :: st) S := st_ rfl
set_option maxRecDepth 100000 in
theorem s287_608 {j : Nat} {a0 : av} {a1 : av} {a2 : av} {a3 : av} {st : List av} (S : Sto) : run 287 j 608 [a0, a1, a2, a3] st S = run 287 j 609 [a0, a1, a2, a3] (vI 1 :: st) S := st_ rfl
set_option maxRecDepth 100000 in
theorem s287_609 {j : Nat} {a0 : av} {a1 : av} {a2 : av} {a3 : av} {st : List av} (x y : Int32) (S : Sto) : run 287 j 609 [a0, a1, a2, a3] (vI y :: vI x :: st) S = run 287 j 610 [a0, a1, a2, a3] (vI (x + y) :: st) S := st_ rfl
set_option maxRecDepth 100000 in
theorem s287_610 {j : Nat} {a0 : av} {a1 : av} {a2 : av} {a3 : av} {st : List av} (x : Int32) (q : Nat) (S : Sto) : run 287 j 610 [a0, a1, a2, a3] (vI x :: vR 102 q :: st) S = if ib x (S.1 103 0 0).toNatClampNeg then run 287 j 611 [a0, a1, a2, a3] (vI (S.1 102 q x.toNatClampNeg) :: st) S else none := st_itN rfl
set_option maxRecDepth 100000 in
theorem s287_611 {j : Nat} {a1 : av} {a2 : av} {a3 : av} {st : List av} (q : Nat) (S : Sto) : run 287 j 611 [vR 102 q, a1, a2, a3] st S = run 287 j 612 [vR 102 q, a1, a2, a3] (vR 102 q :: st) S := st_ rfl
set_option maxRecDepth 100000 in
theorem s287_612 {j : Nat} {a0 : av} {a1 : av} {a2 : av} {st : List av} (x : Int32) (S : Sto) : run 287 j 612 [a0, a1, a2, vI x] st S = run 287 j 613 [a0, a1, a2, vI x] (vI x :: st) S := st_ rfl
set_option maxRecDepth 100000 in
theorem s287_613 {j : Nat} {a0 : av} {a1 : av} {a2 : av} {a3 : av} {st : List av} (S : Sto) : run 287 j 613 [a0, a1, a2, a3] st S = run 287 j 614 [a0, a1, a2, a3] (vI 2 :: st) S := st_ rfl
set_option maxRecDepth 100000 in
theorem s287_614 {j : Nat} {a0 : av} {a1 : av} {a2 : av} {a3 : av} {st : List av} (x y : Int32) (S : Sto) : run 287 j 614 [a0, a1, a2, a3] (vI y :: vI x :: st) S = run 287 j 615 [a0, a1, a2, a3] (vI (x + y) :: st) S := st_ rfl
set_option maxRecDepth 100000 in
theorem s287_615 {j : Nat} {a0 : av} {a1 : av} {a2 : av} {a3 : av} {st : List av} (x : Int32) (q : Nat) (S : Sto) : run 287 j 615 [a0, a1, a2, a3] (vI x :: vR 102 q :: st) S = if ib x (S.1 103 0 0).toNatClampNeg then run 287 j 616 [a0, a1, a2, a3] (vI (S.1 102 q x.toNatClampNeg) :: st) S else none := st_itN rfl
set_option maxRecDepth 100000 in
theorem s287_616 {j : Nat} {a1 : av} {a2 : av} {a3 : av} {st : List av} (q : Nat) (S : Sto) : run 287 j 616 [vR 102 q, a1, a2, a3] st S = run 287 j 617 [vR 102 q, a1, a2, a3] (vR 102 q :: st) S := st_ rfl
set_option maxRecDepth 100000 in
theorem s287_617 {j : Nat} {a0 : av} {a1 : av} {a2 : av} {st : List av} (x : Int32) (S : Sto) : run 287 j 617 [a0, a1, a2, vI x] st S = run 287 j 618 [a0, a1, a2, vI x] (vI x :: st) S := st_ rfl
set_option maxRecDepth 100000 in
theorem s287_618 {j : Nat} {a0 : av} {a1 : av} {a2 : av} {a3 : av} {st : List av} (S : Sto) : run 287 j 618 [a0, a1, a2, a3] st S = run 287 j 619 [a0, a1, a2, a3] (vI 3 :: st) S := st_ rfl
set_option maxRecDepth 100000 in
theorem s287_619 {j : Nat} {a0 : av} {a1 : av} {a2 : av} {a3 : av} {st : List av} (x y : Int32) (S : Sto) : run 287 j 619 [a0, a1, a2, a3] (vI y :: vI x :: st) S = run 287 j 620 [a0, a1, a2, a3] (vI (x + y) :: st) S := st_ rfl
set_option maxRecDepth 100000 in
theorem s287_620 {j : Nat} {a0 : av} {a1 : av} {a2 : av} {a3 : av} {st : List av} (x : Int32) (q : Nat) (S : Sto) : run 287 j 620 [a0, a1, a2, a3] (vI x :: vR 102 q :: st) S = if ib x (S.1 103 0 0).toNatClampNeg then run 287 j 621 [a0, a1, a2, a3] (vI (S.1 102 q x.toNatClampNeg) :: st) S else none := st_itN rfl
set_option maxRecDepth 100000 in
theorem s287_621 {j : Nat} {a0 : av} {a1 : av} {a2 : av} {a3 : av} (x0 : Int32) (x1 : Int32) (x2 : Int32) (x3 : Nat) (x4 : Int32) (S : Sto) : run 287 j 621 [a0, a1, a2, a3] [vI x0, vI x1, vI x2, vR 50 x3, vI x4] S = bV (call 157 0 [vR 50 x3, vI x2, vI x1, vI x0] S) (fun v S' => run 287 j 624 [a0, a1, a2, a3] (v :: [vI x4]) S') := st_cV rfl
set_option maxRecDepth 100000 in
theorem s287_624 {j : Nat} {a0 : av} {a1 : av} {a2 : av} {a3 : av} {st : List av} (x y : Int32) (S : Sto) : run 287 j 624 [a0, a1, a2, a3] (vI y :: vI x :: st) S = if x = y then run 287 j 1470 [a0, a1, a2, a3] st S else run 287 j 627 [a0, a1, a2, a3] st S := st_ite rfl
set_option maxRecDepth 100000 in
theorem s287_627 {j : Nat} {a0 : av} {a1 : av} {a2 : av} {a3 : av} {st : List av} (S : Sto) : run 287 j 627 [a0, a1, a2, a3] st S = run 287 j 628 [a0, a1, a2, a3] (vI 0 :: st) S := st_ rfl
set_option maxRecDepth 100000 in
theorem s287_628 {j : Nat} {a0 : av} {a1 : av} {a2 : av} {a3 : av} (x : Int32) (S : Sto) : run 287 j 628 [a0, a1, a2, a3] [vI x] S = if vp_nar .boolean x = x then some (some (vI x), S) else none := st_rb rfl
set_option maxRecDepth 100000 in
theorem s287_629 {j : Nat} {a0 : av} {a2 : av} {a3 : av} {st : List av} (q : Nat) (S : Sto) : run 287 j 629 [a0, vR 0 q, a2, a3] st S = run 287 j 630 [a0, vR 0 q, a2, a3] (vR 0 q :: st) S := st_ rfl
set_option maxRecDepth 100000 in
theorem s287_630 {j : Nat} {a1 : av} {a2 : av} {a3 : av} {st : List av} (q : Nat) (S : Sto) : run 287 j 630 [vR 102 q, a1, a2, a3] st S = run 287 j 631 [vR 102 q, a1, a2, a3] (vR 102 q :: st) S := st_ rfl
set_option maxRecDepth 100000 in
theorem s287_631 {j : Nat} {a0 : av} {a1 : av} {a2 : av} {st : List av} (x : Int32) (S : Sto) : run 287 j 631 [a0, a1, a2, vI x] st S = run 287 j 632 [a0, a1, a2, vI x] (vI x :: st) S := st_ rfl
set_option maxRecDepth 100000 in
theorem s287_632 {j : Nat} {a0 : av} {a1 : av} {a2 : av} {a3 : av} {st : List av} (S : Sto) : run 287 j 632 [a0, a1, a2, a3] st S = run 287 j 633 [a0, a1, a2, a3] (vI 1 :: st) S := st_ rfl
set_option maxRecDepth 100000 in
theorem s287_633 {j : Nat} {a0 : av} {a1 : av} {a2 : av} {a3 : av} {st : List av} (x y : Int32) (S : Sto) : run 287 j 633 [a0, a1, a2, a3] (vI y :: vI x :: st) S = run 287 j 634 [a0, a1, a2, a3] (vI (x + y) :: st) S := st_ rfl
set_option maxRecDepth 100000 in
theorem s287_634 {j : Nat} {a0 : av} {a1 : av} {a2 : av} {a3 : av} {st : List av} (x : Int32) (q : Nat) (S : Sto) : run 287 j 634 [a0, a1, a2, a3] (vI x :: vR 102 q :: st) S = if ib x (S.1 103 0 0).toNatClampNeg then run 287 j 635 [a0, a1, a2, a3] (vI (S.1 102 q x.toNatClampNeg) :: st) S else none := st_itN rfl
set_option maxRecDepth 100000 in
theorem s287_635 {j : Nat} {a1 : av} {a2 : av} {a3 : av} {st : List av} (q : Nat) (S : Sto) : run 287 j 635 [vR 102 q, a1, a2, a3] st S = run 287 j 636 [vR 102 q, a1, a2, a3] (vR 102 q :: st) S := st_ rfl
set_option maxRecDepth 100000 in
theorem s287_636 {j : Nat} {a0 : av} {a1 : av} {a2 : av} {st : List av} (x : Int32) (S : Sto) : run 287 j 636 [a0, a1, a2, vI x] st S = run 287 j 637 [a0, a1, a2, vI x] (vI x :: st) S := st_ rfl
set_option maxRecDepth 100000 in
theorem s287_637 {j : Nat} {a0 : av} {a1 : av} {a2 : av} {a3 : av} {st : List av} (S : Sto) : run 287 j 637 [a0, a1, a2, a3] st S = run 287 j 638 [a0, a1, a2, a3] (vI 2 :: st) S := st_ rfl
set_option maxRecDepth 100000 in
theorem s287_638 {j : Nat} {a0 : av} {a1 : av} {a2 : av} {a3 : av} {st : List av} (x y : Int32) (S : Sto) : run 287 j 638 [a0, a1, a2, a3] (vI y :: vI x :: st) S = run 287 j 639 [a0, a1, a2, a3] (vI (x + y) :: st) S := st_ rfl
set_option maxRecDepth 100000 in
theorem s287_639 {j : Nat} {a0 : av} {a1 : av} {a2 : av} {a3 : av} {st : List av} (x : Int32) (q : Nat) (S : Sto) : run 287 j 639 [a0, a1, a2, a3] (vI x :: vR 102 q :: st) S = if ib x (S.1 103 0 0).toNatClampNeg then run 287 j 640 [a0, a1, a2, a3] (vI (S.1 102 q x.toNatClampNeg) :: st) S else none := st_itN rfl
set_option maxRecDepth 100000 in
theorem s287_640 {j : Nat} {a0 : av} {a1 : av} {a2 : av} {a3 : av} (x0 : Int32) (x1 : Int32) (x2 : Nat) (S : Sto) : run 287 j 640 [a0, a1, a2, a3] [vI x0, vI x1, vR 0 x2] S = bV (call 106 0 [vR 0 x2, vI x1, vI x0] S) (fun v S' => run 287 j 643 [a0, a1, a2, a3] (v :: []) S') := st_cV rfl
set_option maxRecDepth 100000 in
theorem s287_643 {j : Nat} {a0 : av} {a1 : av} {a3 : av} {st : List av} (q : Nat) (S : Sto) : run 287 j 643 [a0, a1, vR 50 q, a3] st S = run 287 j 644 [a0, a1, vR 50 q, a3] (vR 50 q :: st) S := st_ rfl
set_option maxRecDepth 100000 in
theorem s287_644 {j : Nat} {a1 : av} {a2 : av} {a3 : av} {st : List av} (q : Nat) (S : Sto) : run 287 j 644 [vR 102 q, a1, a2, a3] st S = run 287 j 645 [vR 102 q, a1, a2, a3] (vR 102 q :: st) S := st_ rfl
set_option maxRecDepth 100000 in
theorem s287_645 {j : Nat} {a0 : av} {a1 : av} {a2 : av} {st : List av} (x : Int32) (S : Sto) : run 287 j 645 [a0, a1, a2, vI x] st S = run 287 j 646 [a0, a1, a2, vI x] (vI x :: st) S := st_ rfl
set_option maxRecDepth 100000 in
theorem s287_646 {j : Nat} {a0 : av} {a1 : av} {a2 : av} {a3 : av} {st : List av} (S : Sto) : run 287 j 646 [a0, a1, a2, a3] st S = run 287 j 647 [a0, a1, a2, a3] (vI 1 :: st) S := st_ rfl
set_option maxRecDepth 100000 in
theorem s287_647 {j : Nat} {a0 : av} {a1 : av} {a2 : av} {a3 : av} {st : List av} (x y : Int32) (S : Sto) : run 287 j 647 [a0, a1, a2, a3] (vI y :: vI x :: st) S = run 287 j 648 [a0, a1, a2, a3] (vI (x + y) :: st) S := st_ rfl
set_option maxRecDepth 100000 in
theorem s287_648 {j : Nat} {a0 : av} {a1 : av} {a2 : av} {a3 : av} {st : List av} (x : Int32) (q : Nat) (S : Sto) : run 287 j 648 [a0, a1, a2, a3] (vI x :: vR 102 q :: st) S = if ib x (S.1 103 0 0).toNatClampNeg then run 287 j 649 [a0, a1, a2, a3] (vI (S.1 102 q x.toNatClampNeg) :: st) S else none := st_itN rfl
set_option maxRecDepth 100000 in
theorem s287_649 {j : Nat} {a1 : av} {a2 : av} {a3 : av} {st : List av} (q : Nat) (S : Sto) : run 287 j 649 [vR 102 q, a1, a2, a3] st S = run 287 j 650 [vR 102 q, a1, a2, a3] (vR 102 q :: st) S := st_ rfl
set_option maxRecDepth 100000 in
theorem s287_650 {j : Nat} {a0 : av} {a1 : av} {a2 : av} {st : List av} (x : Int32) (S : Sto) : run 287 j 650 [a0, a1, a2, vI x] st S = run 287 j 651 [a0, a1, a2, vI x] (vI x :: st) S := st_ rfl
set_option maxRecDepth 100000 in
theorem s287_651 {j : Nat} {a0 : av} {a1 : av} {a2 : av} {a3 : av} {st : List av} (S : Sto) : run 287 j 651 [a0, a1, a2, a3] st S = run 287 j 652 [a0, a1, a2, a3] (vI 2 :: st) S := st_ rfl
set_option maxRecDepth 100000 in
theorem s287_652 {j : Nat} {a0 : av} {a1 : av} {a2 : av} {a3 : av} {st : List av} (x y : Int32) (S : Sto) : run 287 j 652 [a0, a1, a2, a3] (vI y :: vI x :: st) S = run 287 j 653 [a0, a1, a2, a3] (vI (x + y) :: st) S := st_ rfl
set_option maxRecDepth 100000 in
theorem s287_653 {j : Nat} {a0 : av} {a1 : av} {a2 : av} {a3 : av} {st : List av} (x : Int32) (q : Nat) (S : Sto) : run 287 j 653 [a0, a1, a2, a3] (vI x :: vR 102 q :: st) S = if ib x (S.1 103 0 0).toNatClampNeg then run 287 j 654 [a0, a1, a2, a3] (vI (S.1 102 q x.toNatClampNeg) :: st) S else none := st_itN rfl
set_option maxRecDepth 100000 in
theorem s287_654 {j : Nat} {a0 : av} {a1 : av} {a2 : av} {a3 : av} (x0 : Int32) (x1 : Int32) (x2 : Nat) (x3 : Int32) (S : Sto) : run 287 j 654 [a0, a1, a2, a3] [vI x0, vI x1, vR 50 x2, vI x3] S = bV (call 161 0 [vR 50 x2, vI x1, vI x0] S) (fun v S' => run 287 j 657 [a0, a1, a2, a3] (v :: [vI x3]) S') := st_cV rfl
set_option maxRecDepth 100000 in
theorem s287_657 {j : Nat} {a0 : av} {a1 : av} {a2 : av} {a3 : av} {st : List av} (x y : Int32) (S : Sto) : run 287 j 657 [a0, a1, a2, a3] (vI y :: vI x :: st) S = if x = y then run 287 j 1470 [a0, a1, a2, a3] st S else run 287 j 660 [a0, a1, a2, a3] st S := st_ite rfl
set_option maxRecDepth 100000 in
theorem s287_660 {j : Nat} {a0 : av} {a1 : av} {a2 : av} {a3 : av} {st : List av} (S : Sto) : run 287 j 660 [a0, a1, a2, a3] st S = run 287 j 661 [a0, a1, a2, a3] (vI 0 :: st) S := st_ rfl
set_option maxRecDepth 100000 in
theorem s287_661 {j : Nat} {a0 : av} {a1 : av} {a2 : av} {a3 : av} (x : Int32) (S : Sto) : run 287 j 661 [a0, a1, a2, a3] [vI x] S = if vp_nar .boolean x = x then some (some (vI x), S) else none := st_rb rfl
set_option maxRecDepth 100000 in
theorem s287_662 {j : Nat} {a0 : av} {a2 : av} {a3 : av} {st : List av} (q : Nat) (S : Sto) : run 287 j 662 [a0, vR 0 q, a2, a3] st S = run 287 j 663 [a0, vR 0 q, a2, a3] (vR 0 q :: st) S := st_ rfl
set_option maxRecDepth 100000 in
theorem s287_663 {j : Nat} {a1 : av} {a2 : av} {a3 : av} {st : List av} (q : Nat) (S : Sto) : run 287 j 663 [vR 102 q, a1, a2, a3] st S = run 287 j 664 [vR 102 q, a1, a2, a3] (vR 102 q :: st) S := st_ rfl
set_option maxRecDepth 100000 in
theorem s287_664 {j : Nat} {a0 : av} {a1 : av} {a2 : av} {st : List av} (x : Int32) (S : Sto) : run 287 j 664 [a0, a1, a2, vI x] st S = run 287 j 665 [a0, a1, a2, vI x] (vI x :: st) S := st_ rfl
set_option maxRecDepth 100000 in
theorem s287_665 {j : Nat} {a0 : av} {a1 : av} {a2 : av} {a3 : av} {st : List av} (S : Sto) : run 287 j 665 [a0, a1, a2, a3] st S = run 287 j 666 [a0, a1, a2, a3] (vI 1 :: st) S := st_ rfl
set_option maxRecDepth 100000 in
theorem s287_666 {j : Nat} {a0 : av} {a1 : av} {a2 : av} {a3 : av} {st : List av} (x y : Int32) (S : Sto) : run 287 j 666 [a0, a1, a2, a3] (vI y :: vI x :: st) S = run 287 j 667 [a0, a1, a2, a3] (vI (x + y) :: st) S := st_ rfl
set_option maxRecDepth 100000 in
theorem s287_667 {j : Nat} {a0 : av} {a1 : av} {a2 : av} {a3 : av} {st : List av} (x : Int32) (q : Nat) (S : Sto) : run 287 j 667 [a0, a1, a2, a3] (vI x :: vR 102 q :: st) S = if ib x (S.1 103 0 0).toNatClampNeg then run 287 j 668 [a0, a1, a2, a3] (vI (S.1 102 q x.toNatClampNeg) :: st) S else none := st_itN rfl
set_option maxRecDepth 100000 in
theorem s287_668 {j : Nat} {a1 : av} {a2 : av} {a3 : av} {st : List av} (q : Nat) (S : Sto) : run 287 j 668 [vR 102 q, a1, a2, a3] st S = run 287 j 669 [vR 102 q, a1, a2, a3] (vR 102 q :: st) S := st_ rfl
set_option maxRecDepth 100000 in
theorem s287_669 {j : Nat} {a0 : av} {a1 : av} {a2 : av} {st : List av} (x : Int32) (S : Sto) : run 287 j 669 [a0, a1, a2, vI x] st S = run 287 j 670 [a0, a1, a2, vI x] (vI x :: st) S := st_ rfl
set_option maxRecDepth 100000 in
theorem s287_670 {j : Nat} {a0 : av} {a1 : av} {a2 : av} {a3 : av} {st : List av} (S : Sto) : run 287 j 670 [a0, a1, a2, a3] st S = run 287 j 671 [a0, a1, a2, a3] (vI 2 :: st) S := st_ rfl
set_option maxRecDepth 100000 in
theorem s287_671 {j : Nat} {a0 : av} {a1 : av} {a2 : av} {a3 : av} {st : List av} (x y : Int32) (S : Sto) : run 287 j 671 [a0, a1, a2, a3] (vI y :: vI x :: st) S = run 287 j 672 [a0, a1, a2, a3] (vI (x + y) :: st) S := st_ rfl
set_option maxRecDepth 100000 in
theorem s287_672 {j : Nat} {a0 : av} {a1 : av} {a2 : av} {a3 : av} {st : List av} (x : Int32) (q : Nat) (S : Sto) : run 287 j 672 [a0, a1, a2, a3] (vI x :: vR 102 q :: st) S = if ib x (S.1 103 0 0).toNatClampNeg then run 287 j 673 [a0, a1, a2, a3] (vI (S.1 102 q x.toNatClampNeg) :: st) S else none := st_itN rfl
set_option maxRecDepth 100000 in
theorem s287_673 {j : Nat} {a0 : av} {a1 : av} {a2 : av} {a3 : av} (x0 : Int32) (x1 : Int32) (x2 : Nat) (S : Sto) : run 287 j 673 [a0, a1, a2, a3] [vI x0, vI x1, vR 0 x2] S = bV (call 107 0 [vR 0 x2, vI x1, vI x0] S) (fun v S' => run 287 j 676 [a0, a1, a2, a3] (v :: []) S') := st_cV rfl
set_option maxRecDepth 100000 in
theorem s287_676 {j : Nat} {a0 : av} {a1 : av} {a3 : av} {st : List av} (q : Nat) (S : Sto) : run 287 j 676 [a0, a1, vR 50 q, a3] st S = run 287 j 677 [a0, a1, vR 50 q, a3] (vR 50 q :: st) S := st_ rfl
set_option maxRecDepth 100000 in
theorem s287_677 {j : Nat} {a1 : av} {a2 : av} {a3 : av} {st : List av} (q : Nat) (S : Sto) : run 287 j 677 [vR 102 q, a1, a2, a3] st S = run 287 j 678 [vR 102 q, a1, a2, a3] (vR 102 q :: st) S := st_ rfl
set_option maxRecDepth 100000 in
theorem s287_678 {j : Nat} {a0 : av} {a1 : av} {a2 : av} {st : List av} (x : Int32) (S : Sto) : run 287 j 678 [a0, a1, a2, vI x] st S = run 287 j 679 [a0, a1, a2, vI x] (vI x :: st) S := st_ rfl
set_option maxRecDepth 100000 in
theorem s287_679 {j : Nat} {a0 : av} {a1 : av} {a2 : av} {a3 : av} {st : List av} (S : Sto) : run 287 j 679 [a0, a1, a2, a3] st S = run 287 j 680 [a0, a1, a2, a3] (vI 1 :: st) S := st_ rfl
set_option maxRecDepth 100000 in
theorem s287_680 {j : Nat} {a0 : av} {a1 : av} {a2 : av} {a3 : av} {st : List av} (x y : Int32) (S : Sto) : run 287 j 680 [a0, a1, a2, a3] (vI y :: vI x :: st) S = run 287 j 681 [a0, a1, a2, a3] (vI (x + y) :: st) S := st_ rfl
set_option maxRecDepth 100000 in
theorem s287_681 {j : Nat} {a0 : av} {a1 : av} {a2 : av} {a3 : av} {st : List av} (x : Int32) (q : Nat) (S : Sto) : run 287 j 681 [a0, a1, a2, a3] (vI x :: vR 102 q :: st) S = if ib x (S.1 103 0 0).toNatClampNeg then run 287 j 682 [a0, a1, a2, a3] (vI (S.1 102 q x.toNatClampNeg) :: st) S else none := st_itN rfl
set_option maxRecDepth 100000 in
theorem s287_682 {j : Nat} {a1 : av} {a2 : av} {a3 : av} {st : List av} (q : Nat) (S : Sto) : run 287 j 682 [vR 102 q, a1, a2, a3] st S = run 287 j 683 [vR 102 q, a1, a2, a3] (vR 102 q :: st) S := st_ rfl
set_option maxRecDepth 100000 in
theorem s287_683 {j : Nat} {a0 : av} {a1 : av} {a2 : av} {st : List av} (x : Int32) (S : Sto) : run 287 j 683 [a0, a1, a2, vI x] st S = run 287 j 684 [a0, a1, a2, vI x] (vI x :: st) S := st_ rfl
set_option maxRecDepth 100000 in
theorem s287_684 {j : Nat} {a0 : av} {a1 : av} {a2 : av} {a3 : av} {st : List av} (S : Sto) : run 287 j 684 [a0, a1, a2, a3] st S = run 287 j 685 [a0, a1, a2, a3] (vI 2 :: st) S := st_ rfl
set_option maxRecDepth 100000 in
theorem s287_685 {j : Nat} {a0 : av} {a1 : av} {a2 : av} {a3 : av} {st : List av} (x y : Int32) (S : Sto) : run 287 j 685 [a0, a1, a2, a3] (vI y :: vI x :: st) S = run 287 j 686 [a0, a1, a2, a3] (vI (x + y) :: st) S := st_ rfl
set_option maxRecDepth 100000 in
theorem s287_686 {j : Nat} {a0 : av} {a1 : av} {a2 : av} {a3 : av} {st : List av} (x : Int32) (q : Nat) (S : Sto) : run 287 j 686 [a0, a1, a2, a3] (vI x :: vR 102 q :: st) S = if ib x (S.1 103 0 0).toNatClampNeg then run 287 j 687 [a0, a1, a2, a3] (vI (S.1 102 q x.toNatClampNeg) :: st) S else none := st_itN rfl
set_option maxRecDepth 100000 in
theorem s287_687 {j : Nat} {a0 : av} {a1 : av} {a2 : av} {a3 : av} (x0 : Int32) (x1 : Int32) (x2 : Nat) (x3 : Int32) (S : Sto) : run 287 j 687 [a0, a1, a2, a3] [vI x0, vI x1, vR 50 x2, vI x3] S = bV (call 163 0 [vR 50 x2, vI x1, vI x0] S) (fun v S' => run 287 j 690 [a0, a1, a2, a3] (v :: [vI x3]) S') := st_cV rfl
set_option maxRecDepth 100000 in
theorem s287_690 {j : Nat} {a0 : av} {a1 : av} {a2 : av} {a3 : av} {st : List av} (x y : Int32) (S : Sto) : run 287 j 690 [a0, a1, a2, a3] (vI y :: vI x :: st) S = if x = y then run 287 j 1470 [a0, a1, a2, a3] st S else run 287 j 693 [a0, a1, a2, a3] st S := st_ite rfl
set_option maxRecDepth 100000 in
theorem s287_693 {j : Nat} {a0 : av} {a1 : av} {a2 : av} {a3 : av} {st : List av} (S : Sto) : run 287 j 693 [a0, a1, a2, a3] st S = run 287 j 694 [a0, a1, a2, a3] (vI 0 :: st) S := st_ rfl
set_option maxRecDepth 100000 in
theorem s287_694 {j : Nat} {a0 : av} {a1 : av} {a2 : av} {a3 : av} (x : Int32) (S : Sto) : run 287 j 694 [a0, a1, a2, a3] [vI x] S = if vp_nar .boolean x = x then some (some (vI x), S) else none := st_rb rfl
set_option maxRecDepth 100000 in
theorem s287_695 {j : Nat} {a0 : av} {a2 : av} {a3 : av} {st : List av} (q : Nat) (S : Sto) : run 287 j 695 [a0, vR 0 q, a2, a3] st S = run 287 j 696 [a0, vR 0 q, a2, a3] (vR 0 q :: st) S := st_ rfl
set_option maxRecDepth 100000 in
theorem s287_696 {j : Nat} {a1 : av} {a2 : av} {a3 : av} {st : List av} (q : Nat) (S : Sto) : run 287 j 696 [vR 102 q, a1, a2, a3] st S = run 287 j 697 [vR 102 q, a1, a2, a3] (vR 102 q :: st) S := st_ rfl
set_option maxRecDepth 100000 in
theorem s287_697 {j : Nat} {a0 : av} {a1 : av} {a2 : av} {st : List av} (x : Int32) (S : Sto) : run 287 j 697 [a0, a1, a2, vI x] st S = run 287 j 698 [a0, a1, a2, vI x] (vI x :: st) S := st_ rfl
set_option maxRecDepth 100000 in
theorem s287_698 {j : Nat} {a0 : av} {a1 : av} {a2 : av} {a3 : av} {st : List av} (S : Sto) : run 287 j 698 [a0, a1, a2, a3] st S = run 287 j 699 [a0, a1, a2, a3] (vI 1 :: st) S := st_ rfl
set_option maxRecDepth 100000 in
theorem s287_699 {j : Nat} {a0 : av} {a1 : av} {a2 : av} {a3 : av} {st : List av} (x y : Int32) (S : Sto) : run 287 j 699 [a0, a1, a2, a3] (vI y :: vI x :: st) S = run 287 j 700 [a0, a1, a2, a3] (vI (x + y) :: st) S := st_ rfl
set_option maxRecDepth 100000 in
theorem s287_700 {j : Nat} {a0 : av} {a1 : av} {a2 : av} {a3 : av} {st : List av} (x : Int32) (q : Nat) (S : Sto) : run 287 j 700 [a0, a1, a2, a3] (vI x :: vR 102 q :: st) S = if ib x (S.1 103 0 0).toNatClampNeg then run 287 j 701 [a0, a1, a2, a3] (vI (S.1 102 q x.toNatClampNeg) :: st) S else none := st_itN rfl
set_option maxRecDepth 100000 in
theorem s287_701 {j : Nat} {a1 : av} {a2 : av} {a3 : av} {st : List av} (q : Nat) (S : Sto) : run 287 j 701 [vR 102 q, a1, a2, a3] st S = run 287 j 702 [vR 102 q, a1, a2, a3] (vR 102 q :: st) S := st_ rfl
set_option maxRecDepth 100000 in
theorem s287_702 {j : Nat} {a0 : av} {a1 : av} {a2 : av} {st : List av} (x : Int32) (S : Sto) : run 287 j 702 [a0, a1, a2, vI x] st S = run 287 j 703 [a0, a1, a2, vI x] (vI x :: st) S := st_ rfl
set_option maxRecDepth 100000 in
theorem s287_703 {j : Nat} {a0 : av} {a1 : av} {a2 : av} {a3 : av} {st : List av} (S : Sto) : run 287 j 703 [a0, a1, a2, a3] st S = run 287 j 704 [a0, a1, a2, a3] (vI 2 :: st) S := st_ rfl
set_option maxRecDepth 100000 in
theorem s287_704 {j : Nat} {a0 : av} {a1 : av} {a2 : av} {a3 : av} {st : List av} (x y : Int32) (S : Sto) : run 287 j 704 [a0, a1, a2, a3] (vI y :: vI x :: st) S = run 287 j 705 [a0, a1, a2, a3] (vI (x + y) :: st) S := st_ rfl
set_option maxRecDepth 100000 in
theorem s287_705 {j : Nat} {a0 : av} {a1 : av} {a2 : av} {a3 : av} {st : List av} (x : Int32) (q : Nat) (S : Sto) : run 287 j 705 [a0, a1, a2, a3] (vI x :: vR 102 q :: st) S = if ib x (S.1 103 0 0).toNatClampNeg then run 287 j 706 [a0, a1, a2, a3] (vI (S.1 102 q x.toNatClampNeg) :: st) S else none := st_itN rfl
set_option maxRecDepth 100000 in
theorem s287_706 {j : Nat} {a1 : av} {a2 : av} {a3 : av} {st : List av} (q : Nat) (S : Sto) : run 287 j 706 [vR 102 q, a1, a2, a3] st S = run 287 j 707 [vR 102 q, a1, a2, a3] (vR 102 q :: st) S := st_ rfl
set_option maxRecDepth 100000 in
theorem s287_707 {j : Nat} {a0 : av} {a1 : av} {a2 : av} {st : List av} (x : Int32) (S : Sto) : run 287 j 707 [a0, a1, a2, vI x] st S = run 287 j 708 [a0, a1, a2, vI x] (vI x :: st) S := st_ rfl
set_option maxRecDepth 100000 in
theorem s287_708 {j : Nat} {a0 : av} {a1 : av} {a2 : av} {a3 : av} {st : List av} (S : Sto) : run 287 j 708 [a0, a1, a2, a3] st S = run 287 j 709 [a0, a1, a2, a3] (vI 3 :: st) S := st_ rfl
set_option maxRecDepth 100000 in
theorem s287_709 {j : Nat} {a0 : av} {a1 : av} {a2 : av} {a3 : av} {st : List av} (x y : Int32) (S : Sto) : run 287 j 709 [a0, a1, a2, a3] (vI y :: vI x :: st) S = run 287 j 710 [a0, a1, a2, a3] (vI (x + y) :: st) S := st_ rfl
set_option maxRecDepth 100000 in
theorem s287_710 {j : Nat} {a0 : av} {a1 : av} {a2 : av} {a3 : av} {st : List av} (x : Int32) (q : Nat) (S : Sto) : run 287 j 710 [a0, a1, a2, a3] (vI x :: vR 102 q :: st) S = if ib x (S.1 103 0 0).toNatClampNeg then run 287 j 711 [a0, a1, a2, a3] (vI (S.1 102 q x.toNatClampNeg) :: st) S else none := st_itN rfl
set_option maxRecDepth 100000 in
theorem s287_711 {j : Nat} {a1 : av} {a2 : av} {a3 : av} {st : List av} (q : Nat) (S : Sto) : run 287 j 711 [vR 102 q, a1, a2, a3] st S = run 287 j 712 [vR 102 q, a1, a2, a3] (vR 102 q :: st) S := st_ rfl
set_option maxRecDepth 100000 in
theorem s287_712 {j : Nat} {a0 : av} {a1 : av} {a2 : av} {st : List av} (x : Int32) (S : Sto) : run 287 j 712 [a0, a1, a2, vI x] st S = run 287 j 713 [a0, a1, a2, vI x] (vI x :: st) S := st_ rfl
set_option maxRecDepth 100000 in
theorem s287_713 {j : Nat} {a0 : av} {a1 : av} {a2 : av} {a3 : av} {st : List av} (S : Sto) : run 287 j 713 [a0, a1, a2, a3] st S = run 287 j 714 [a0, a1, a2, a3] (vI 4 :: st) S := st_ rfl
set_option maxRecDepth 100000 in
theorem s287_714 {j : Nat} {a0 : av} {a1 : av} {a2 : av} {a3 : av} {st : List av} (x y : Int32) (S : Sto) : run 287 j 714 [a0, a1, a2, a3] (vI y :: vI x :: st) S = run 287 j 715 [a0, a1, a2, a3] (vI (x + y) :: st) S := st_ rfl
set_option maxRecDepth 100000 in
theorem s287_715 {j : Nat} {a0 : av} {a1 : av} {a2 : av} {a3 : av} {st : List av} (x : Int32) (q : Nat) (S : Sto) : run 287 j 715 [a0, a1, a2, a3] (vI x :: vR 102 q :: st) S = if ib x (S.1 103 0 0).toNatClampNeg then run 287 j 716 [a0, a1, a2, a3] (vI (S.1 102 q x.toNatClampNeg) :: st) S else none := st_itN rfl
set_option maxRecDepth 100000 in
theorem s287_716 {j : Nat} {a0 : av} {a1 : av} {a2 : av} {a3 : av} (x0 : Int32) (x1 : Int32) (x2 : Int32) (x3 : Int32) (x4 : Nat) (S : Sto) : run 287 j 716 [a0, a1, a2, a3] [vI x0, vI x1, vI x2, vI x3, vR 0 x4] S = bV (call 108 0 [vR 0 x4, vI x3, vI x2, vI x1, vI x0] S) (fun v S' => run 287 j 719 [a0, a1, a2, a3] (v :: []) S') := st_cV rfl
set_option maxRecDepth 100000 in
theorem s287_719 {j : Nat} {a0 : av} {a1 : av} {a3 : av} {st : List av} (q : Nat) (S : Sto) : run 287 j 719 [a0, a1, vR 50 q, a3] st S = run 287 j 720 [a0, a1, vR 50 q, a3] (vR 50 q :: st) S := st_ rfl
set_option maxRecDepth 100000 in
theorem s287_720 {j : Nat} {a1 : av} {a2 : av} {a3 : av} {st : List av} (q : Nat) (S : Sto) : run 287 j 720 [vR 102 q, a1, a2, a3] st S = run 287 j 721 [vR 102 q, a1, a2, a3] (vR 102 q :: st) S := st_ rfl
set_option maxRecDepth 100000 in
theorem s287_721 {j : Nat} {a0 : av} {a1 : av} {a2 : av} {st : List av} (x : Int32) (S : Sto) : run 287 j 721 [a0, a1, a2, vI x] st S = run 287 j 722 [a0, a1, a2, vI x] (vI x :: st) S := st_ rfl
set_option maxRecDepth 100000 in
theorem s287_722 {j : Nat} {a0 : av} {a1 : av} {a2 : av} {a3 : av} {st : List av} (S : Sto) : run 287 j 722 [a0, a1, a2, a3] st S = run 287 j 723 [a0, a1, a2, a3] (vI 1 :: st) S := st_ rfl
set_option maxRecDepth 100000 in
theorem s287_723 {j : Nat} {a0 : av} {a1 : av} {a2 : av} {a3 : av} {st : List av} (x y : Int32) (S : Sto) : run 287 j 723 [a0, a1, a2, a3] (vI y :: vI x :: st) S = run 287 j 724 [a0, a1, a2, a3] (vI (x + y) :: st) S := st_ rfl
set_option maxRecDepth 100000 in
theorem s287_724 {j : Nat} {a0 : av} {a1 : av} {a2 : av} {a3 : av} {st : List av} (x : Int32) (q : Nat) (S : Sto) : run 287 j 724 [a0, a1, a2, a3] (vI x :: vR 102 q :: st) S = if ib x (S.1 103 0 0).toNatClampNeg then run 287 j 725 [a0, a1, a2, a3] (vI (S.1 102 q x.toNatClampNeg) :: st) S else none := st_itN rfl
set_option maxRecDepth 100000 in
theorem s287_725 {j : Nat} {a1 : av} {a2 : av} {a3 : av} {st : List av} (q : Nat) (S : Sto) : run 287 j 725 [vR 102 q, a1, a2, a3] st S = run 287 j 726 [vR 102 q, a1, a2, a3] (vR 102 q :: st) S := st_ rfl
set_option maxRecDepth 100000 in
theorem s287_726 {j : Nat} {a0 : av} {a1 : av} {a2 : av} {st : List av} (x : Int32) (S : Sto) : run 287 j 726 [a0, a1, a2, vI x] st S = run 287 j 727 [a0, a1, a2, vI x] (vI x :: st) S := st_ rfl
set_option maxRecDepth 100000 in
theorem s287_727 {j : Nat} {a0 : av} {a1 : av} {a2 : av} {a3 : av} {st : List av} (S : Sto) : run 287 j 727 [a0, a1, a2, a3] st S = run 287 j 728 [a0, a1, a2, a3] (vI 2 :: st) S := st_ rfl
set_option maxRecDepth 100000 in
theorem s287_728 {j : Nat} {a0 : av} {a1 : av} {a2 : av} {a3 : av} {st : List av} (x y : Int32) (S : Sto) : run 287 j 728 [a0, a1, a2, a3] (vI y :: vI x :: st) S = run 287 j 729 [a0, a1, a2, a3] (vI (x + y) :: st) S := st_ rfl
set_option maxRecDepth 100000 in
theorem s287_729 {j : Nat} {a0 : av} {a1 : av} {a2 : av} {a3 : av} {st : List av} (x : Int32) (q : Nat) (S : Sto) : run 287 j 729 [a0, a1, a2, a3] (vI x :: vR 102 q :: st) S = if ib x (S.1 103 0 0).toNatClampNeg then run 287 j 730 [a0, a1, a2, a3] (vI (S.1 102 q x.toNatClampNeg) :: st) S else none := st_itN rfl
set_option maxRecDepth 100000 in
theorem s287_730 {j : Nat} {a1 : av} {a2 : av} {a3 : av} {st : List av} (q : Nat) (S : Sto) : run 287 j 730 [vR 102 q, a1, a2, a3] st S = run 287 j 731 [vR 102 q, a1, a2, a3] (vR 102 q :: st) S := st_ rfl
set_option maxRecDepth 100000 in
theorem s287_731 {j : Nat} {a0 : av} {a1 : av} {a2 : av} {st : List av} (x : Int32) (S : Sto) : run 287 j 731 [a0, a1, a2, vI x] st S = run 287 j 732 [a0, a1, a2, vI x] (vI x :: st) S := st_ rfl
set_option maxRecDepth 100000 in
theorem s287_732 {j : Nat} {a0 : av} {a1 : av} {a2 : av} {a3 : av} {st : List av} (S : Sto) : run 287 j 732 [a0, a1, a2, a3] st S = run 287 j 733 [a0, a1, a2, a3] (vI 3 :: st) S := st_ rfl
set_option maxRecDepth 100000 in
theorem s287_733 {j : Nat} {a0 : av} {a1 : av} {a2 : av} {a3 : av} {st : List av} (x y : Int32) (S : Sto) : run 287 j 733 [a0, a1, a2, a3] (vI y :: vI x :: st) S = run 287 j 734 [a0, a1, a2, a3] (vI (x + y) :: st) S := st_ rfl
set_option maxRecDepth 100000 in
theorem s287_734 {j : Nat} {a0 : av} {a1 : av} {a2 : av} {a3 : av} {st : List av} (x : Int32) (q : Nat) (S : Sto) : run 287 j 734 [a0, a1, a2, a3] (vI x :: vR 102 q :: st) S = if ib x (S.1 103 0 0).toNatClampNeg then run 287 j 735 [a0, a1, a2, a3] (vI (S.1 102 q x.toNatClampNeg) :: st) S else none := st_itN rfl
set_option maxRecDepth 100000 in
theorem s287_735 {j : Nat} {a1 : av} {a2 : av} {a3 : av} {st : List av} (q : Nat) (S : Sto) : run 287 j 735 [vR 102 q, a1, a2, a3] st S = run 287 j 736 [vR 102 q, a1, a2, a3] (vR 102 q :: st) S := st_ rfl
set_option maxRecDepth 100000 in
theorem s287_736 {j : Nat} {a0 : av} {a1 : av} {a2 : av} {st : List av} (x : Int32) (S : Sto) : run 287 j 736 [a0, a1, a2, vI x] st S = run 287 j 737 [a0, a1, a2, vI x] (vI x :: st) S := st_ rfl
set_option maxRecDepth 100000 in
theorem s287_737 {j : Nat} {a0 : av} {a1 : av} {a2 : av} {a3 : av} {st : List av} (S : Sto) : run 287 j 737 [a0, a1, a2, a3] st S = run 287 j 738 [a0, a1, a2, a3] (vI 4 :: st) S := st_ rfl
set_option maxRecDepth 100000 in
theorem s287_738 {j : Nat} {a0 : av} {a1 : av} {a2 : av} {a3 : av} {st : List av} (x y : Int32) (S : Sto) : run 287 j 738 [a0, a1, a2, a3] (vI y :: vI x :: st) S = run 287 j 739 [a0, a1, a2, a3] (vI (x + y) :: st) S := st_ rfl
set_option maxRecDepth 100000 in
theorem s287_739 {j : Nat} {a0 : av} {a1 : av} {a2 : av} {a3 : av} {st : List av} (x : Int32) (q : Nat) (S : Sto) : run 287 j 739 [a0, a1, a2, a3] (vI x :: vR 102 q :: st) S = if ib x (S.1 103 0 0).toNatClampNeg then run 287 j 740 [a0, a1, a2, a3] (vI (S.1 102 q x.toNatClampNeg) :: st) S else none := st_itN rfl
set_option maxRecDepth 100000 in
theorem s287_740 {j : Nat} {a0 : av} {a1 : av} {a2 : av} {a3 : av} (x0 : Int32) (x1 : Int32) (x2 : Int32) (x3 : Int32) (x4 : Nat) (x5 : Int32) (S : Sto) : run 287 j 740 [a0, a1, a2, a3] [vI x0, vI x1, vI x2, vI x3, vR 50 x4, vI x5] S = bV (call 190 0 [vR 50 x4, vI x3, vI x2, vI x1, vI x0] S) (fun v S' => run 287 j 743 [a0, a1, a2, a3] (v :: [vI x5]) S') := st_cV rfl
set_option maxRecDepth 100000 in
theorem s287_743 {j : Nat} {a0 : av} {a1 : av} {a2 : av} {a3 : av} {st : List av} (x y : Int32) (S : Sto) : run 287 j 743 [a0, a1, a2, a3] (vI y :: vI x :: st) S = if x = y then run 287 j 1470 [a0, a1, a2, a3] st S else run 287 j 746 [a0, a1, a2, a3] st S := st_ite rfl
set_option maxRecDepth 100000 in
theorem s287_746 {j : Nat} {a0 : av} {a1 : av} {a2 : av} {a3 : av} {st : List av} (S : Sto) : run 287 j 746 [a0, a1, a2, a3] st S = run 287 j 747 [a0, a1, a2, a3] (vI 0 :: st) S := st_ rfl
set_option maxRecDepth 100000 in
theorem s287_747 {j : Nat} {a0 : av} {a1 : av} {a2 : av} {a3 : av} (x : Int32) (S : Sto) : run 287 j 747 [a0, a1, a2, a3] [vI x] S = if vp_nar .boolean x = x then some (some (vI x), S) else none := st_rb rfl
set_option maxRecDepth 100000 in
theorem s287_748 {j : Nat} {a0 : av} {a2 : av} {a3 : av} {st : List av} (q : Nat) (S : Sto) : run 287 j 748 [a0, vR 0 q, a2, a3] st S = run 287 j 749 [a0, vR 0 q, a2, a3] (vR 0 q :: st) S := st_ rfl
set_option maxRecDepth 100000 in
theorem s287_749 {j : Nat} {a1 : av} {a2 : av} {a3 : av} {st : List av} (q : Nat) (S : Sto) : run 287 j 749 [vR 102 q, a1, a2, a3] st S = run 287 j 750 [vR 102 q, a1, a2, a3] (vR 102 q :: st) S := st_ rfl
set_option maxRecDepth 100000 in
theorem s287_750 {j : Nat} {a0 : av} {a1 : av} {a2 : av} {st : List av} (x : Int32) (S : Sto) : run 287 j 750 [a0, a1, a2, vI x] st S = run 287 j 751 [a0, a1, a2, vI x] (vI x :: st) S := st_ rfl
set_option maxRecDepth 100000 in
theorem s287_751 {j : Nat} {a0 : av} {a1 : av} {a2 : av} {a3 : av} {st : List av} (S : Sto) : run 287 j 751 [a0, a1, a2, a3] st S = run 287 j 752 [a0, a1, a2, a3] (vI 1 :: st) S := st_ rfl
set_option maxRecDepth 100000 in
theorem s287_752 {j : Nat} {a0 : av} {a1 : av} {a2 : av} {a3 : av} {st : List av} (x y : Int32) (S : Sto) : run 287 j 752 [a0, a1, a2, a3] (vI y :: vI x :: st) S = run 287 j 753 [a0, a1, a2, a3] (vI (x + y) :: st) S := st_ rfl
set_option maxRecDepth 100000 in
theorem s287_753 {j : Nat} {a0 : av} {a1 : av} {a2 : av} {a3 : av} {st : List av} (x : Int32) (q : Nat) (S : Sto) : run 287 j 753 [a0, a1, a2, a3] (vI x :: vR 102 q :: st) S = if ib x (S.1 103 0 0).toNatClampNeg then run 287 j 754 [a0, a1, a2, a3] (vI (S.1 102 q x.toNatClampNeg) :: st) S else none := st_itN rfl
set_option maxRecDepth 100000 in
theorem s287_754 {j : Nat} {a1 : av} {a2 : av} {a3 : av} {st : List av} (q : Nat) (S : Sto) : run 287 j 754 [vR 102 q, a1, a2, a3] st S = run 287 j 755 [vR 102 q, a1, a2, a3] (vR 102 q :: st) S := st_ rfl
set_option maxRecDepth 100000 in
theorem s287_755 {j : Nat} {a0 : av} {a1 : av} {a2 : av} {st : List av} (x : Int32) (S : Sto) : run 287 j 755 [a0, a1, a2, vI x] st S = run 287 j 756 [a0, a1, a2, vI x] (vI x :: st) S := st_ rfl
set_option maxRecDepth 100000 in
theorem s287_756 {j : Nat} {a0 : av} {a1 : av} {a2 : av} {a3 : av} {st : List av} (S : Sto) : run 287 j 756 [a0, a1, a2, a3] st S = run 287 j 757 [a0, a1, a2, a3] (vI 2 :: st) S := st_ rfl
set_option maxRecDepth 100000 in
theorem s287_757 {j : Nat} {a0 : av} {a1 : av} {a2 : av} {a3 : av} {st : List av} (x y : Int32) (S : Sto) : run 287 j 757 [a0, a1, a2, a3] (vI y :: vI x :: st) S = run 287 j 758 [a0, a1, a2, a3] (vI (x + y) :: st) S := st_ rfl
set_option maxRecDepth 100000 in
theorem s287_758 {j : Nat} {a0 : av} {a1 : av} {a2 : av} {a3 : av} {st : List av} (x : Int32) (q : Nat) (S : Sto) : run 287 j 758 [a0, a1, a2, a3] (vI x :: vR 102 q :: st) S = if ib x (S.1 103 0 0).toNatClampNeg then run 287 j 759 [a0, a1, a2, a3] (vI (S.1 102 q x.toNatClampNeg) :: st) S else none := st_itN rfl
set_option maxRecDepth 100000 in
theorem s287_759 {j : Nat} {a1 : av} {a2 : av} {a3 : av} {st : List av} (q : Nat) (S : Sto) : run 287 j 759 [vR 102 q, a1, a2, a3] st S = run 287 j 760 [vR 102 q, a1, a2, a3] (vR 102 q :: st) S := st_ rfl
set_option maxRecDepth 100000 in
theorem s287_760 {j : Nat} {a0 : av} {a1 : av} {a2 : av} {st : List av} (x : Int32) (S : Sto) : run 287 j 760 [a0, a1, a2, vI x] st S = run 287 j 761 [a0, a1, a2, vI x] (vI x :: st) S := st_ rfl
set_option maxRecDepth 100000 in
theorem s287_761 {j : Nat} {a0 : av} {a1 : av} {a2 : av} {a3 : av} {st : List av} (S : Sto) : run 287 j 761 [a0, a1, a2, a3] st S = run 287 j 762 [a0, a1, a2, a3] (vI 3 :: st) S := st_ rfl
set_option maxRecDepth 100000 in
theorem s287_762 {j : Nat} {a0 : av} {a1 : av} {a2 : av} {a3 : av} {st : List av} (x y : Int32) (S : Sto) : run 287 j 762 [a0, a1, a2, a3] (vI y :: vI x :: st) S = run 287 j 763 [a0, a1, a2, a3] (vI (x + y) :: st) S := st_ rfl
set_option maxRecDepth 100000 in
theorem s287_763 {j : Nat} {a0 : av} {a1 : av} {a2 : av} {a3 : av} {st : List av} (x : Int32) (q : Nat) (S : Sto) : run 287 j 763 [a0, a1, a2, a3] (vI x :: vR 102 q :: st) S = if ib x (S.1 103 0 0).toNatClampNeg then run 287 j 764 [a0, a1, a2, a3] (vI (S.1 102 q x.toNatClampNeg) :: st) S else none := st_itN rfl
set_option maxRecDepth 100000 in
theorem s287_764 {j : Nat} {a0 : av} {a1 : av} {a2 : av} {a3 : av} (x0 : Int32) (x1 : Int32) (x2 : Int32) (x3 : Nat) (S : Sto) : run 287 j 764 [a0, a1, a2, a3] [vI x0, vI x1, vI x2, vR 0 x3] S = bV (call 111 0 [vR 0 x3, vI x2, vI x1, vI x0] S) (fun v S' => run 287 j 767 [a0, a1, a2, a3] (v :: []) S') := st_cV rfl
set_option maxRecDepth 100000 in
theorem s287_767 {j : Nat} {a0 : av} {a1 : av} {a3 : av} {st : List av} (q : Nat) (S : Sto) : run 287 j 767 [a0, a1, vR 50 q, a3] st S = run 287 j 768 [a0, a1, vR 50 q, a3] (vR 50 q :: st) S := st_ rfl
set_option maxRecDepth 100000 in
theorem s287_768 {j : Nat} {a1 : av} {a2 : av} {a3 : av} {st : List av} (q : Nat) (S : Sto) : run 287 j 768 [vR 102 q, a1, a2, a3] st S = run 287 j 769 [vR 102 q, a1, a2, a3] (vR 102 q :: st) S := st_ rfl
set_option maxRecDepth 100000 in
theorem s287_769 {j : Nat} {a0 : av} {a1 : av} {a2 : av} {st : List av} (x : Int32) (S : Sto) : run 287 j 769 [a0, a1, a2, vI x] st S = run 287 j 770 [a0, a1, a2, vI x] (vI x :: st) S := st_ rfl
set_option maxRecDepth 100000 in
theorem s287_770 {j : Nat} {a0 : av} {a1 : av} {a2 : av} {a3 : av} {st : List av} (S : Sto) : run 287 j 770 [a0, a1, a2, a3] st S = run 287 j 771 [a0, a1, a2, a3] (vI 1 :: st) S := st_ rfl
set_option maxRecDepth 100000 in
theorem s287_771 {j : Nat} {a0 : av} {a1 : av} {a2 : av} {a3 : av} {st : List av} (x y : Int32) (S : Sto) : run 287 j 771 [a0, a1, a2, a3] (vI y :: vI x :: st) S = run 287 j 772 [a0, a1, a2, a3] (vI (x + y) :: st) S := st_ rfl
set_option maxRecDepth 100000 in
theorem s287_772 {j : Nat} {a0 : av} {a1 : av} {a2 : av} {a3 : av} {st : List av} (x : Int32) (q : Nat) (S : Sto) : run 287 j 772 [a0, a1, a2, a3] (vI x :: vR 102 q :: st) S = if ib x (S.1 103 0 0).toNatClampNeg then run 287 j 773 [a0, a1, a2, a3] (vI (S.1 102 q x.toNatClampNeg) :: st) S else none := st_itN rfl
set_option maxRecDepth 100000 in
theorem s287_773 {j : Nat} {a1 : av} {a2 : av} {a3 : av} {st : List av} (q : Nat) (S : Sto) : run 287 j 773 [vR 102 q, a1, a2, a3] st S = run 287 j 774 [vR 102 q, a1, a2, a3] (vR 102 q :: st) S := st_ rfl
set_option maxRecDepth 100000 in
theorem s287_774 {j : Nat} {a0 : av} {a1 : av} {a2 : av} {st : List av} (x : Int32) (S : Sto) : run 287 j 774 [a0, a1, a2, vI x] st S = run 287 j 775 [a0, a1, a2, vI x] (vI x :: st) S := st_ rfl
set_option maxRecDepth 100000 in
theorem s287_775 {j : Nat} {a0 : av} {a1 : av} {a2 : av} {a3 : av} {st : List av} (S : Sto) : run 287 j 775 [a0, a1, a2, a3] st S = run 287 j 776 [a0, a1, a2, a3] (vI 2 :: st) S := st_ rfl
set_option maxRecDepth 100000 in
theorem s287_776 {j : Nat} {a0 : av} {a1 : av} {a2 : av} {a3 : av} {st : List av} (x y : Int32) (S : Sto) : run 287 j 776 [a0, a1, a2, a3] (vI y :: vI x :: st) S = run 287 j 777 [a0, a1, a2, a3] (vI (x + y) :: st) S := st_ rfl
set_option maxRecDepth 100000 in
theorem s287_777 {j : Nat} {a0 : av} {a1 : av} {a2 : av} {a3 : av} {st : List av} (x : Int32) (q : Nat) (S : Sto) : run 287 j 777 [a0, a1, a2, a3] (vI x :: vR 102 q :: st) S = if ib x (S.1 103 0 0).toNatClampNeg then run 287 j 778 [a0, a1, a2, a3] (vI (S.1 102 q x.toNatClampNeg) :: st) S else none := st_itN rfl
set_option maxRecDepth 100000 in
theorem s287_778 {j : Nat} {a1 : av} {a2 : av} {a3 : av} {st : List av} (q : Nat) (S : Sto) : run 287 j 778 [vR 102 q, a1, a2, a3] st S = run 287 j 779 [vR 102 q, a1, a2, a3] (vR 102 q :: st) S := st_ rfl
set_option maxRecDepth 100000 in
theorem s287_779 {j : Nat} {a0 : av} {a1 : av} {a2 : av} {st : List av} (x : Int32) (S : Sto) : run 287 j 779 [a0, a1, a2, vI x] st S = run 287 j 780 [a0, a1, a2, vI x] (vI x :: st) S := st_ rfl
set_option maxRecDepth 100000 in
theorem s287_780 {j : Nat} {a0 : av} {a1 : av} {a2 : av} {a3 : av} {st : List av} (S : Sto) : run 287 j 780 [a0, a1, a2, a3] st S = run 287 j 781 [a0, a1, a2, a3] (vI 3 :: st) S := st_ rfl
set_option maxRecDepth 100000 in
theorem s287_781 {j : Nat} {a0 : av} {a1 : av} {a2 : av} {a3 : av} {st : List av} (x y : Int32) (S : Sto) : run 287 j 781 [a0, a1, a2, a3] (vI y :: vI x :: st) S = run 287 j 782 [a0, a1, a2, a3] (vI (x + y) :: st) S := st_ rfl
set_option maxRecDepth 100000 in
theorem s287_782 {j : Nat} {a0 : av} {a1 : av} {a2 : av} {a3 : av} {st : List av} (x : Int32) (q : Nat) (S : Sto) : run 287 j 782 [a0, a1, a2, a3] (vI x :: vR 102 q :: st) S = if ib x (S.1 103 0 0).toNatClampNeg then run 287 j 783 [a0, a1, a2, a3] (vI (S.1 102 q x.toNatClampNeg) :: st) S else none := st_itN rfl
set_option maxRecDepth 100000 in
theorem s287_783 {j : Nat} {a0 : av} {a1 : av} {a2 : av} {a3 : av} (x0 : Int32) (x1 : Int32) (x2 : Int32) (x3 : Nat) (x4 : Int32) (S : Sto) : run 287 j 783 [a0, a1, a2, a3] [vI x0, vI x1, vI x2, vR 50 x3, vI x4] S = bV (call 201 0 [vR 50 x3, vI x2, vI x1, vI x0] S) (fun v S' => run 287 j 786 [a0, a1, a2, a3] (v :: [vI x4]) S') := st_cV rfl
set_option maxRecDepth 100000 in
theorem s287_786 {j : Nat} {a0 : av} {a1 : av} {a2 : av} {a3 : av} {st : List av} (x y : Int32) (S : Sto) : run 287 j 786 [a0, a1, a2, a3] (vI y :: vI x :: st) S = if x = y then run 287 j 1470 [a0, a1, a2, a3] st S else run 287 j 789 [a0, a1, a2, a3] st S := st_ite rfl
set_option maxRecDepth 100000 in
theorem s287_789 {j : Nat} {a0 : av} {a1 : av} {a2 : av} {a3 : av} {st : List av} (S : Sto) : run 287 j 789 [a0, a1, a2, a3] st S = run 287 j 790 [a0, a1, a2, a3] (vI 0 :: st) S := st_ rfl
set_option maxRecDepth 100000 in
theorem s287_790 {j : Nat} {a0 : av} {a1 : av} {a2 : av} {a3 : av} (x : Int32) (S : Sto) : run 287 j 790 [a0, a1, a2, a3] [vI x] S = if vp_nar .boolean x = x then some (some (vI x), S) else none := st_rb rfl
set_option maxRecDepth 100000 in
theorem s287_791 {j : Nat} {a0 : av} {a2 : av} {a3 : av} {st : List av} (q : Nat) (S : Sto) : run 287 j 791 [a0, vR 0 q, a2, a3] st S = run 287 j 792 [a0, vR 0 q, a2, a3] (vR 0 q :: st) S := st_ rfl
set_option maxRecDepth 100000 in
theorem s287_792 {j : Nat} {a1 : av} {a2 : av} {a3 : av} {st : List av} (q : Nat) (S : Sto) : run 287 j 792 [vR 102 q, a1, a2, a3] st S = run 287 j 793 [vR 102 q, a1, a2, a3] (vR 102 q :: st) S := st_ rfl
set_option maxRecDepth 100000 in
theorem s287_793 {j : Nat} {a0 : av} {a1 : av} {a2 : av} {st : List av} (x : Int32) (S : Sto) : run 287 j 793 [a0, a1, a2, vI x] st S = run 287 j 794 [a0, a1, a2, vI x] (vI x :: st) S := st_ rfl
set_option maxRecDepth 100000 in
theorem s287_794 {j : Nat} {a0 : av} {a1 : av} {a2 : av} {a3 : av} {st : List av} (S : Sto) : run 287 j 794 [a0, a1, a2, a3] st S = run 287 j 795 [a0, a1, a2, a3] (vI 1 :: st) S := st_ rfl
set_option maxRecDepth 100000 in
theorem s287_795 {j : Nat} {a0 : av} {a1 : av} {a2 : av} {a3 : av} {st : List av} (x y : Int32) (S : Sto) : run 287 j 795 [a0, a1, a2, a3] (vI y :: vI x :: st) S = run 287 j 796 [a0, a1, a2, a3] (vI (x + y) :: st) S := st_ rfl
set_option maxRecDepth 100000 in
theorem s287_796 {j : Nat} {a0 : av} {a1 : av} {a2 : av} {a3 : av} {st : List av} (x : Int32) (q : Nat) (S : Sto) : run 287 j 796 [a0, a1, a2, a3] (vI x :: vR 102 q :: st) S = if ib x (S.1 103 0 0).toNatClampNeg then run 287 j 797 [a0, a1, a2, a3] (vI (S.1 102 q x.toNatClampNeg) :: st) S else none := st_itN rfl
set_option maxRecDepth 100000 in
theorem s287_797 {j : Nat} {a1 : av} {a2 : av} {a3 : av} {st : List av} (q : Nat) (S : Sto) : run 287 j 797 [vR 102 q, a1, a2, a3] st S = run 287 j 798 [vR 102 q, a1, a2, a3] (vR 102 q :: st) S := st_ rfl
set_option maxRecDepth 100000 in
theorem s287_798 {j : Nat} {a0 : av} {a1 : av} {a2 : av} {st : List av} (x : Int32) (S : Sto) : run 287 j 798 [a0, a1, a2, vI x] st S = run 287 j 799 [a0, a1, a2, vI x] (vI x :: st) S := st_ rfl
set_option maxRecDepth 100000 in
theorem s287_799 {j : Nat} {a0 : av} {a1 : av} {a2 : av} {a3 : av} {st : List av} (S : Sto) : run 287 j 799 [a0, a1, a2, a3] st S = run 287 j 800 [a0, a1, a2, a3] (vI 2 :: st) S := st_ rfl
set_option maxRecDepth 100000 in
theorem s287_800 {j : Nat} {a0 : av} {a1 : av} {a2 : av} {a3 : av} {st : List av} (x y : Int32) (S : Sto) : run 287 j 800 [a0, a1, a2, a3] (vI y :: vI x :: st) S = run 287 j 801 [a0, a1, a2, a3] (vI (x + y) :: st) S := st_ rfl
set_option maxRecDepth 100000 in
theorem s287_801 {j : Nat} {a0 : av} {a1 : av} {a2 : av} {a3 : av} {st : List av} (x : Int32) (q : Nat) (S : Sto) : run 287 j 801 [a0, a1, a2, a3] (vI x :: vR 102 q :: st) S = if ib x (S.1 103 0 0).toNatClampNeg then run 287 j 802 [a0, a1, a2, a3] (vI (S.1 102 q x.toNatClampNeg) :: st) S else none := st_itN rfl
set_option maxRecDepth 100000 in
theorem s287_802 {j : Nat} {a0 : av} {a1 : av} {a2 : av} {a3 : av} (x0 : Int32) (x1 : Int32) (x2 : Nat) (S : Sto) : run 287 j 802 [a0, a1, a2, a3] [vI x0, vI x1, vR 0 x2] S = bV (call 112 0 [vR 0 x2, vI x1, vI x0] S) (fun v S' => run 287 j 805 [a0, a1, a2, a3] (v :: []) S') := st_cV rfl
set_option maxRecDepth 100000 in
theorem s287_805 {j : Nat} {a0 : av} {a1 : av} {a3 : av} {st : List av} (q : Nat) (S : Sto) : run 287 j 805 [a0, a1, vR 50 q, a3] st S = run 287 j 806 [a0, a1, vR 50 q, a3] (vR 50 q :: st) S := st_ rfl
set_option maxRecDepth 100000 in
theorem s287_806 {j : Nat} {a1 : av} {a2 : av} {a3 : av} {st : List av} (q : Nat) (S : Sto) : run 287 j 806 [vR 102 q, a1, a2, a3] st S = run 287 j 807 [vR 102 q, a1, a2, a3] (vR 102 q :: st) S := st_ rfl
set_option maxRecDepth 100000 in
theorem s287_807 {j : Nat} {a0 : av} {a1 : av} {a2 : av} {st : List av} (x : Int32) (S : Sto) : run 287 j 807 [a0, a1, a2, vI x] st S = run 287 j 808 [a0, a1, a2, vI x] (vI x :: st) S := st_ rfl
set_option maxRecDepth 100000 in
theorem s287_808 {j : Nat} {a0 : av} {a1 : av} {a2 : av} {a3 : av} {st : List av} (S : Sto) : run 287 j 808 [a0, a1, a2, a3] st S = run 287 j 809 [a0, a1, a2, a3] (vI 1 :: st) S := st_ rfl
set_option maxRecDepth 100000 in
theorem s287_809 {j : Nat} {a0 : av} {a1 : av} {a2 : av} {a3 : av} {st : List av} (x y : Int32) (S : Sto) : run 287 j 809 [a0, a1, a2, a3] (vI y :: vI x :: st) S = run 287 j 810 [a0, a1, a2, a3] (vI (x + y) :: st) S := st_ rfl
set_option maxRecDepth 100000 in
theorem s287_810 {j : Nat} {a0 : av} {a1 : av} {a2 : av} {a3 : av} {st : List av} (x : Int32) (q : Nat) (S : Sto) : run 287 j 810 [a0, a1, a2, a3] (vI x :: vR 102 q :: st) S = if ib x (S.1 103 0 0).toNatClampNeg then run 287 j 811 [a0, a1, a2, a3] (vI (S.1 102 q x.toNatClampNeg) :: st) S else none := st_itN rfl
set_option maxRecDepth 100000 in
theorem s287_811 {j : Nat} {a1 : av} {a2 : av} {a3 : av} {st : List av} (q : Nat) (S : Sto) : run 287 j 811 [vR 102 q, a1, a2, a3] st S = run 287 j 812 [vR 102 q, a1, a2, a3] (vR 102 q :: st) S := st_ rfl
set_option maxRecDepth 100000 in
theorem s287_812 {j : Nat} {a0 : av} {a1 : av} {a2 : av} {st : List av} (x : Int32) (S : Sto) : run 287 j 812 [a0, a1, a2, vI x] st S = run 287 j 813 [a0, a1, a2, vI x] (vI x :: st) S := st_ rfl
set_option maxRecDepth 100000 in
theorem s287_813 {j : Nat} {a0 : av} {a1 : av} {a2 : av} {a3 : av} {st : List av} (S : Sto) : run 287 j 813 [a0, a1, a2, a3] st S = run 287 j 814 [a0, a1, a2, a3] (vI 2 :: st) S := st_ rfl
set_option maxRecDepth 100000 in
theorem s287_814 {j : Nat} {a0 : av} {a1 : av} {a2 : av} {a3 : av} {st : List av} (x y : Int32) (S : Sto) : run 287 j 814 [a0, a1, a2, a3] (vI y :: vI x :: st) S = run 287 j 815 [a0, a1, a2, a3] (vI (x + y) :: st) S := st_ rfl
set_option maxRecDepth 100000 in
theorem s287_815 {j : Nat} {a0 : av} {a1 : av} {a2 : av} {a3 : av} {st : List av} (x : Int32) (q : Nat) (S : Sto) : run 287 j 815 [a0, a1, a2, a3] (vI x :: vR 102 q :: st) S = if ib x (S.1 103 0 0).toNatClampNeg then run 287 j 816 [a0, a1, a2, a3] (vI (S.1 102 q x.toNatClampNeg) :: st) S else none := st_itN rfl
set_option maxRecDepth 100000 in
theorem s287_816 {j : Nat} {a0 : av} {a1 : av} {a2 : av} {a3 : av} (x0 : Int32) (x1 : Int32) (x2 : Nat) (x3 : Int32) (S : Sto) : run 287 j 816 [a0, a1, a2, a3] [vI x0, vI x1, vR 50 x2, vI x3] S = bV (call 204 0 [vR 50 x2, vI x1, vI x0] S) (fun v S' => run 287 j 819 [a0, a1, a2, a3] (v :: [vI x3]) S') := st_cV rfl
set_option maxRecDepth 100000 in
theorem s287_819 {j : Nat} {a0 : av} {a1 : av} {a2 : av} {a3 : av} {st : List av} (x y : Int32) (S : Sto) : run 287 j 819 [a0, a1, a2, a3] (vI y :: vI x :: st) S = if x = y then run 287 j 1470 [a0, a1, a2, a3] st S else run 287 j 822 [a0, a1, a2, a3] st S := st_ite rfl
set_option maxRecDepth 100000 in
theorem s287_822 {j : Nat} {a0 : av} {a1 : av} {a2 : av} {a3 : av} {st : List av} (S : Sto) : run 287 j 822 [a0, a1, a2, a3] st S = run 287 j 823 [a0, a1, a2, a3] (vI 0 :: st) S := st_ rfl
set_option maxRecDepth 100000 in
theorem s287_823 {j : Nat} {a0 : av} {a1 : av} {a2 : av} {a3 : av} (x : Int32) (S : Sto) : run 287 j 823 [a0, a1, a2, a3] [vI x] S = if vp_nar .boolean x = x then some (some (vI x), S) else none := st_rb rfl
set_option maxRecDepth 100000 in
theorem s287_824 {j : Nat} {a0 : av} {a2 : av} {a3 : av} {st : List av} (q : Nat) (S : Sto) : run 287 j 824 [a0, vR 0 q, a2, a3] st S = run 287 j 825 [a0, vR 0 q, a2, a3] (vR 0 q :: st) S := st_ rfl
set_option maxRecDepth 100000 in
theorem s287_825 {j : Nat} {a1 : av} {a2 : av} {a3 : av} {st : List av} (q : Nat) (S : Sto) : run 287 j 825 [vR 102 q, a1, a2, a3] st S = run 287 j 826 [vR 102 q, a1, a2, a3] (vR 102 q :: st) S := st_ rfl
set_option maxRecDepth 100000 in
theorem s287_826 {j : Nat} {a0 : av} {a1 : av} {a2 : av} {st : List av} (x : Int32) (S : Sto) : run 287 j 826 [a0, a1, a2, vI x] st S = run 287 j 827 [a0, a1, a2, vI x] (vI x :: st) S := st_ rfl
set_option maxRecDepth 100000 in
theorem s287_827 {j : Nat} {a0 : av} {a1 : av} {a2 : av} {a3 : av} {st : List av} (S : Sto) : run 287 j 827 [a0, a1, a2, a3] st S = run 287 j 828 [a0, a1, a2, a3] (vI 1 :: st) S := st_ rfl
set_option maxRecDepth 100000 in
theorem s287_828 {j : Nat} {a0 : av} {a1 : av} {a2 : av} {a3 : av} {st : List av} (x y : Int32) (S : Sto) : run 287 j 828 [a0, a1, a2, a3] (vI y :: vI x :: st) S = run 287 j 829 [a0, a1, a2, a3] (vI (x + y) :: st) S := st_ rfl
set_option maxRecDepth 100000 in
theorem s287_829 {j : Nat} {a0 : av} {a1 : av} {a2 : av} {a3 : av} {st : List av} (x : Int32) (q : Nat) (S : Sto) : run 287 j 829 [a0, a1, a2, a3] (vI x :: vR 102 q :: st) S = if ib x (S.1 103 0 0).toNatClampNeg then run 287 j 830 [a0, a1, a2, a3] (vI (S.1 102 q x.toNatClampNeg) :: st) S else none := st_itN rfl
set_option maxRecDepth 100000 in
theorem s287_830 {j : Nat} {a1 : av} {a2 : av} {a3 : av} {st : List av} (q : Nat) (S : Sto) : run 287 j 830 [vR 102 q, a1, a2, a3] st S = run 287 j 831 [vR 102 q, a1, a2, a3] (vR 102 q :: st) S := st_ rfl
set_option maxRecDepth 100000 in
theorem s287_831 {j : Nat} {a0 : av} {a1 : av} {a2 : av} {st : List av} (x : Int32) (S : Sto) : run 287 j 831 [a0, a1, a2, vI x] st S = run 287 j 832 [a0, a1, a2, vI x] (vI x :: st) S := st_ rfl
set_option maxRecDepth 100000 in
theorem s287_832 {j : Nat} {a0 : av} {a1 : av} {a2 : av} {a3 : av} {st : List av} (S : Sto) : run 287 j 832 [a0, a1, a2, a3] st S = run 287 j 833 [a0, a1, a2, a3] (vI 2 :: st) S := st_ rfl
set_option maxRecDepth 100000 in
theorem s287_833 {j : Nat} {a0 : av} {a1 : av} {a2 : av} {a3 : av} {st : List av} (x y : Int32) (S : Sto) : run 287 j 833 [a0, a1, a2, a3] (vI y :: vI x :: st) S = run 287 j 834 [a0, a1, a2, a3] (vI (x + y) :: st) S := st_ rfl
set_option maxRecDepth 100000 in
theorem s287_834 {j : Nat} {a0 : av} {a1 : av} {a2 : av} {a3 : av} {st : List av} (x : Int32) (q : Nat) (S : Sto) : run 287 j 834 [a0, a1, a2, a3] (vI x :: vR 102 q :: st) S = if ib x (S.1 103 0 0).toNatClampNeg then run 287 j 835 [a0, a1, a2, a3] (vI (S.1 102 q x.toNatClampNeg) :: st) S else none := st_itN rfl
set_option maxRecDepth 100000 in
theorem s287_835 {j : Nat} {a0 : av} {a1 : av} {a2 : av} {a3 : av} (x0 : Int32) (x1 : Int32) (x2 : Nat) (S : Sto) : run 287 j 835 [a0, a1, a2, a3] [vI x0, vI x1, vR 0 x2] S = bV (call 113 0 [vR 0 x2, vI x1, vI x0] S) (fun v S' => run 287 j 838 [a0, a1, a2, a3] (v :: []) S') := st_cV rfl
set_option maxRecDepth 100000 in
theorem s287_838 {j : Nat} {a0 : av} {a1 : av} {a3 : av} {st : List av} (q : Nat) (S : Sto) : run 287 j 838 [a0, a1, vR 50 q, a3] st S = run 287 j 839 [a0, a1, vR 50 q, a3] (vR 50 q :: st) S := st_ rfl
set_option maxRecDepth 100000 in
theorem s287_839 {j : Nat} {a1 : av} {a2 : av} {a3 : av} {st : List av} (q : Nat) (S : Sto) : run 287 j 839 [vR 102 q, a1, a2, a3] st S = run 287 j 840 [vR 102 q, a1, a2, a3] (vR 102 q :: st) S := st_ rfl
set_option maxRecDepth 100000 in
theorem s287_840 {j : Nat} {a0 : av} {a1 : av} {a2 : av} {st : List av} (x : Int32) (S : Sto) : run 287 j 840 [a0, a1, a2, vI x] st S = run 287 j 841 [a0, a1, a2, vI x] (vI x :: st) S := st_ rfl
set_option maxRecDepth 100000 in
theorem s287_841 {j : Nat} {a0 : av} {a1 : av} {a2 : av} {a3 : av} {st : List av} (S : Sto) : run 287 j 841 [a0, a1, a2, a3] st S = run 287 j 842 [a0, a1, a2, a3] (vI 1 :: st) S := st_ rfl
set_option maxRecDepth 100000 in
theorem s287_842 {j : Nat} {a0 : av} {a1 : av} {a2 : av} {a3 : av} {st : List av} (x y : Int32) (S : Sto) : run 287 j 842 [a0, a1, a2, a3] (vI y :: vI x :: st) S = run 287 j 843 [a0, a1, a2, a3] (vI (x + y) :: st) S := st_ rfl
set_option maxRecDepth 100000 in
theorem s287_843 {j : Nat} {a0 : av} {a1 : av} {a2 : av} {a3 : av} {st : List av} (x : Int32) (q : Nat) (S : Sto) : run 287 j 843 [a0, a1, a2, a3] (vI x :: vR 102 q :: st) S = if ib x (S.1 103 0 0).toNatClampNeg then run 287 j 844 [a0, a1, a2, a3] (vI (S.1 102 q x.toNatClampNeg) :: st) S else none := st_itN rfl
set_option maxRecDepth 100000 in
theorem s287_844 {j : Nat} {a1 : av} {a2 : av} {a3 : av} {st : List av} (q : Nat) (S : Sto) : run 287 j 844 [vR 102 q, a1, a2, a3] st S = run 287 j 845 [vR 102 q, a1, a2, a3] (vR 102 q :: st) S := st_ rfl
set_option maxRecDepth 100000 in
theorem s287_845 {j : Nat} {a0 : av} {a1 : av} {a2 : av} {st : List av} (x : Int32) (S : Sto) : run 287 j 845 [a0, a1, a2, vI x] st S = run 287 j 846 [a0, a1, a2, vI x] (vI x :: st) S := st_ rfl
set_option maxRecDepth 100000 in
theorem s287_846 {j : Nat} {a0 : av} {a1 : av} {a2 : av} {a3 : av} {st : List av} (S : Sto) : run 287 j 846 [a0, a1, a2, a3] st S = run 287 j 847 [a0, a1, a2, a3] (vI 2 :: st) S := st_ rfl
set_option maxRecDepth 100000 in
theorem s287_847 {j : Nat} {a0 : av} {a1 : av} {a2 : av} {a3 : av} {st : List av} (x y : Int32) (S : Sto) : run 287 j 847 [a0, a1, a2, a3] (vI y :: vI x :: st) S = run 287 j 848 [a0, a1, a2, a3] (vI (x + y) :: st) S := st_ rfl
set_option maxRecDepth 100000 in
theorem s287_848 {j : Nat} {a0 : av} {a1 : av} {a2 : av} {a3 : av} {st : List av} (x : Int32) (q : Nat) (S : Sto) : run 287 j 848 [a0, a1, a2, a3] (vI x :: vR 102 q :: st) S = if ib x (S.1 103 0 0).toNatClampNeg then run 287 j 849 [a0, a1, a2, a3] (vI (S.1 102 q x.toNatClampNeg) :: st) S else none := st_itN rfl
set_option maxRecDepth 100000 in
theorem s287_849 {j : Nat} {a0 : av} {a1 : av} {a2 : av} {a3 : av} (x0 : Int32) (x1 : Int32) (x2 : Nat) (x3 : Int32) (S : Sto) : run 287 j 849 [a0, a1, a2, a3] [vI x0, vI x1, vR 50 x2, vI x3] S = bV (call 208 0 [vR 50 x2, vI x1, vI x0] S) (fun v S' => run 287 j 852 [a0, a1, a2, a3] (v :: [vI x3]) S') := st_cV rfl
set_option maxRecDepth 100000 in
theorem s287_852 {j : Nat} {a0 : av} {a1 : av} {a2 : av} {a3 : av} {st : List av} (x y : Int32) (S : Sto) : run 287 j 852 [a0, a1, a2, a3] (vI y :: vI x :: st) S = if x = y then run 287 j 1470 [a0, a1, a2, a3] st S else run 287 j 855 [a0, a1, a2, a3] st S := st_ite rfl
set_option maxRecDepth 100000 in
theorem s287_855 {j : Nat} {a0 : av} {a1 : av} {a2 : av} {a3 : av} {st : List av} (S : Sto) : run 287 j 855 [a0, a1, a2, a3] st S = run 287 j 856 [a0, a1, a2, a3] (vI 0 :: st) S := st_ rfl
set_option maxRecDepth 100000 in
theorem s287_856 {j : Nat} {a0 : av} {a1 : av} {a2 : av} {a3 : av} (x : Int32) (S : Sto) : run 287 j 856 [a0, a1, a2, a3] [vI x] S = if vp_nar .boolean x = x then some (some (vI x), S) else none := st_rb rfl
set_option maxRecDepth 100000 in
theorem s287_857 {j : Nat} {a0 : av} {a2 : av} {a3 : av} {st : List av} (q : Nat) (S : Sto) : run 287 j 857 [a0, vR 0 q, a2, a3] st S = run 287 j 858 [a0, vR 0 q, a2, a3] (vR 0 q :: st) S := st_ rfl
set_option maxRecDepth 100000 in
theorem s287_858 {j : Nat} {a1 : av} {a2 : av} {a3 : av} {st : List av} (q : Nat) (S : Sto) : run 287 j 858 [vR 102 q, a1, a2, a3] st S = run 287 j 859 [vR 102 q, a1, a2, a3] (vR 102 q :: st) S := st_ rfl
set_option maxRecDepth 100000 in
theorem s287_859 {j : Nat} {a0 : av} {a1 : av} {a2 : av} {st : List av} (x : Int32) (S : Sto) : run 287 j 859 [a0, a1, a2, vI x] st S = run 287 j 860 [a0, a1, a2, vI x] (vI x :: st) S := st_ rfl
set_option maxRecDepth 100000 in
theorem s287_860 {j : Nat} {a0 : av} {a1 : av} {a2 : av} {a3 : av} {st : List av} (S : Sto) : run 287 j 860 [a0, a1, a2, a3] st S = run 287 j 861 [a0, a1, a2, a3] (vI 1 :: st) S := st_ rfl
set_option maxRecDepth 100000 in
theorem s287_861 {j : Nat} {a0 : av} {a1 : av} {a2 : av} {a3 : av} {st : List av} (x y : Int32) (S : Sto) : run 287 j 861 [a0, a1, a2, a3] (vI y :: vI x :: st) S = run 287 j 862 [a0, a1, a2, a3] (vI (x + y) :: st) S := st_ rfl
set_option maxRecDepth 100000 in
theorem s287_862 {j : Nat} {a0 : av} {a1 : av} {a2 : av} {a3 : av} {st : List av} (x : Int32) (q : Nat) (S : Sto) : run 287 j 862 [a0, a1, a2, a3] (vI x :: vR 102 q :: st) S = if ib x (S.1 103 0 0).toNatClampNeg then run 287 j 863 [a0, a1, a2, a3] (vI (S.1 102 q x.toNatClampNeg) :: st) S else none := st_itN rfl
set_option maxRecDepth 100000 in
theorem s287_863 {j : Nat} {a1 : av} {a2 : av} {a3 : av} {st : List av} (q : Nat) (S : Sto) : run 287 j 863 [vR 102 q, a1, a2, a3] st S = run 287 j 864 [vR 102 q, a1, a2, a3] (vR 102 q :: st) S := st_ rfl
set_option maxRecDepth 100000 in
theorem s287_864 {j : Nat} {a0 : av} {a1 : av} {a2 : av} {st : List av} (x : Int32) (S : Sto) : run 287 j 864 [a0, a1, a2, vI x] st S = run 287 j 865 [a0, a1, a2, vI x] (vI x :: st) S := st_ rfl
set_option maxRecDepth 100000 in
theorem s287_865 {j : Nat} {a0 : av} {a1 : av} {a2 : av} {a3 : av} {st : List av} (S : Sto) : run 287 j 865 [a0, a1, a2, a3] st S = run 287 j 866 [a0, a1, a2, a3] (vI 2 :: st) S := st_ rfl
set_option maxRecDepth 100000 in
theorem s287_866 {j : Nat} {a0 : av} {a1 : av} {a2 : av} {a3 : av} {st : List av} (x y : Int32) (S : Sto) : run 287 j 866 [a0, a1, a2, a3] (vI y :: vI x :: st) S = run 287 j 867 [a0, a1, a2, a3] (vI (x + y) :: st) S := st_ rfl
set_option maxRecDepth 100000 in
theorem s287_867 {j : Nat} {a0 : av} {a1 : av} {a2 : av} {a3 : av} {st : List av} (x : Int32) (q : Nat) (S : Sto) : run 287 j 867 [a0, a1, a2, a3] (vI x :: vR 102 q :: st) S = if ib x (S.1 103 0 0).toNatClampNeg then run 287 j 868 [a0, a1, a2, a3] (vI (S.1 102 q x.toNatClampNeg) :: st) S else none := st_itN rfl
set_option maxRecDepth 100000 in
theorem s287_868 {j : Nat} {a0 : av} {a1 : av} {a2 : av} {a3 : av} (x0 : Int32) (x1 : Int32) (x2 : Nat) (S : Sto) : run 287 j 868 [a0, a1, a2, a3] [vI x0, vI x1, vR 0 x2] S = bV (call 114 0 [vR 0 x2, vI x1, vI x0] S) (fun v S' => run 287 j 871 [a0, a1, a2, a3] (v :: []) S') := st_cV rfl
set_option maxRecDepth 100000 in
theorem s287_871 {j : Nat} {a0 : av} {a1 : av} {a3 : av} {st : List av} (q : Nat) (S : Sto) : run 287 j 871 [a0, a1, vR 50 q, a3] st S = run 287 j 872 [a0, a1, vR 50 q, a3] (vR 50 q :: st) S := st_ rfl
set_option maxRecDepth 100000 in
theorem s287_872 {j : Nat} {a1 : av} {a2 : av} {a3 : av} {st : List av} (q : Nat) (S : Sto) : run 287 j 872 [vR 102 q, a1, a2, a3] st S = run 287 j 873 [vR 102 q, a1, a2, a3] (vR 102 q :: st) S := st_ rfl
set_option maxRecDepth 100000 in
theorem s287_873 {j : Nat} {a0 : av} {a1 : av} {a2 : av} {st : List av} (x : Int32) (S : Sto) : run 287 j 873 [a0, a1, a2, vI x] st S = run 287 j 874 [a0, a1, a2, vI x] (vI x :: st) S := st_ rfl
set_option maxRecDepth 100000 in
theorem s287_874 {j : Nat} {a0 : av} {a1 : av} {a2 : av} {a3 : av} {st : List av} (S : Sto) : run 287 j 874 [a0, a1, a2, a3] st S = run 287 j 875 [a0, a1, a2, a3] (vI 1 :: st) S := st_ rfl
set_option maxRecDepth 100000 in
theorem s287_875 {j : Nat} {a0 : av} {a1 : av} {a2 : av} {a3 : av} {st : List av} (x y : Int32) (S : Sto) : run 287 j 875 [a0, a1, a2, a3] (vI y :: vI x :: st) S = run 287 j 876 [a0, a1, a2, a3] (vI (x + y) :: st) S := st_ rfl
set_option maxRecDepth 100000 in
theorem s287_876 {j : Nat} {a0 : av} {a1 : av} {a2 : av} {a3 : av} {st : List av} (x : Int32) (q : Nat) (S : Sto) : run 287 j 876 [a0, a1, a2, a3] (vI x :: vR 102 q :: st) S = if ib x (S.1 103 0 0).toNatClampNeg then run 287 j 877 [a0, a1, a2, a3] (vI (S.1 102 q x.toNatClampNeg) :: st) S else none := st_itN rfl
set_option maxRecDepth 100000 in
theorem s287_877 {j : Nat} {a1 : av} {a2 : av} {a3 : av} {st : List av} (q : Nat) (S : Sto) : run 287 j 877 [vR 102 q, a1, a2, a3] st S = run 287 j 878 [vR 102 q, a1, a2, a3] (vR 102 q :: st) S := st_ rfl
set_option maxRecDepth 100000 in
theorem s287_878 {j : Nat} {a0 : av} {a1 : av} {a2 : av} {st : List av} (x : Int32) (S : Sto) : run 287 j 878 [a0, a1, a2, vI x] st S = run 287 j 879 [a0, a1, a2, vI x] (vI x :: st) S := st_ rfl
set_option maxRecDepth 100000 in
theorem s287_879 {j : Nat} {a0 : av} {a1 : av} {a2 : av} {a3 : av} {st : List av} (S : Sto) : run 287 j 879 [a0, a1, a2, a3] st S = run 287 j 880 [a0, a1, a2, a3] (vI 2 :: st) S := st_ rfl
set_option maxRecDepth 100000 in
theorem s287_880 {j : Nat} {a0 : av} {a1 : av} {a2 : av} {a3 : av} {st : List av} (x y : Int32) (S : Sto) : run 287 j 880 [a0, a1, a2, a3] (vI y :: vI x :: st) S = run 287 j 881 [a0, a1, a2, a3] (vI (x + y) :: st) S := st_ rfl
set_option maxRecDepth 100000 in
theorem s287_881 {j : Nat} {a0 : av} {a1 : av} {a2 : av} {a3 : av} {st : List av} (x : Int32) (q : Nat) (S : Sto) : run 287 j 881 [a0, a1, a2, a3] (vI x :: vR 102 q :: st) S = if ib x (S.1 103 0 0).toNatClampNeg then run 287 j 882 [a0, a1, a2, a3] (vI (S.1 102 q x.toNatClampNeg) :: st) S else none := st_itN rfl
set_option maxRecDepth 100000 in
theorem s287_882 {j : Nat} {a0 : av} {a1 : av} {a2 : av} {a3 : av} (x0 : Int32) (x1 : Int32) (x2 : Nat) (x3 : Int32) (S : Sto) : run 287 j 882 [a0, a1, a2, a3] [vI x0, vI x1, vR 50 x2, vI x3] S = bV (call 209 0 [vR 50 x2, vI x1, vI x0] S) (fun v S' => run 287 j 885 [a0, a1, a2, a3] (v :: [vI x3]) S') := st_cV rfl
set_option maxRecDepth 100000 in
theorem s287_885 {j : Nat} {a0 : av} {a1 : av} {a2 : av} {a3 : av} {st : List av} (x y : Int32) (S : Sto) : run 287 j 885 [a0, a1, a2, a3] (vI y :: vI x :: st) S = if x = y then run 287 j 1470 [a0, a1, a2, a3] st S else run 287 j 888 [a0, a1, a2, a3] st S := st_ite rfl
set_option maxRecDepth 100000 in
theorem s287_888 {j : Nat} {a0 : av} {a1 : av} {a2 : av} {a3 : av} {st : List av} (S : Sto) : run 287 j 888 [a0, a1, a2, a3] st S = run 287 j 889 [a0, a1, a2, a3] (vI 0 :: st) S := st_ rfl
set_option maxRecDepth 100000 in
theorem s287_889 {j : Nat} {a0 : av} {a1 : av} {a2 : av} {a3 : av} (x : Int32) (S : Sto) : run 287 j 889 [a0, a1, a2, a3] [vI x] S = if vp_nar .boolean x = x then some (some (vI x), S) else none := st_rb rfl
set_option maxRecDepth 100000 in
theorem s287_890 {j : Nat} {a0 : av} {a2 : av} {a3 : av} {st : List av} (q : Nat) (S : Sto) : run 287 j 890 [a0, vR 0 q, a2, a3] st S = run 287 j 891 [a0, vR 0 q, a2, a3] (vR 0 q :: st) S := st_ rfl
set_option maxRecDepth 100000 in
theorem s287_891 {j : Nat} {a1 : av} {a2 : av} {a3 : av} {st : List av} (q : Nat) (S : Sto) : run 287 j 891 [vR 102 q, a1, a2, a3] st S = run 287 j 892 [vR 102 q, a1, a2, a3] (vR 102 q :: st) S := st_ rfl
set_option maxRecDepth 100000 in
theorem s287_892 {j : Nat} {a0 : av} {a1 : av} {a2 : av} {st : List av} (x : Int32) (S : Sto) : run 287 j 892 [a0, a1, a2, vI x] st S = run 287 j 893 [a0, a1, a2, vI x] (vI x :: st) S := st_ rfl
set_option maxRecDepth 100000 in
theorem s287_893 {j : Nat} {a0 : av} {a1 : av} {a2 : av} {a3 : av} {st : List av} (S : Sto) : run 287 j 893 [a0, a1, a2, a3] st S = run 287 j 894 [a0, a1, a2, a3] (vI 1 :: st) S := st_ rfl
set_option maxRecDepth 100000 in
theorem s287_894 {j : Nat} {a0 : av} {a1 : av} {a2 : av} {a3 : av} {st : List av} (x y : Int32) (S : Sto) : run 287 j 894 [a0, a1, a2, a3] (vI y :: vI x :: st) S = run 287 j 895 [a0, a1, a2, a3] (vI (x + y) :: st) S := st_ rfl
set_option maxRecDepth 100000 in
theorem s287_895 {j : Nat} {a0 : av} {a1 : av} {a2 : av} {a3 : av} {st : List av} (x : Int32) (q : Nat) (S : Sto) : run 287 j 895 [a0, a1, a2, a3] (vI x :: vR 102 q :: st) S = if ib x (S.1 103 0 0).toNatClampNeg then run 287 j 896 [a0, a1, a2, a3] (vI (S.1 102 q x.toNatClampNeg) :: st) S else none := st_itN rfl
set_option maxRecDepth 100000 in
theorem s287_896 {j : Nat} {a0 : av} {a1 : av} {a2 : av} {a3 : av} (x0 : Int32) (x1 : Nat) (S : Sto) : run 287 j 896 [a0, a1, a2, a3] [vI x0, vR 0 x1] S = bV (call 115 0 [vR 0 x1, vI x0] S) (fun v S' => run 287 j 899 [a0, a1, a2, a3] (v :: []) S') := st_cV rfl
set_option maxRecDepth 100000 in
theorem s287_899 {j : Nat} {a0 : av} {a1 : av} {a3 : av} {st : List av} (q : Nat) (S : Sto) : run 287 j 899 [a0, a1, vR 50 q, a3] st S = run 287 j 900 [a0, a1, vR 50 q, a3] (vR 50 q :: st) S := st_ rfl
set_option maxRecDepth 100000 in
theorem s287_900 {j : Nat} {a1 : av} {a2 : av} {a3 : av} {st : List av} (q : Nat) (S : Sto) : run 287 j 900 [vR 102 q, a1, a2, a3] st S = run 287 j 901 [vR 102 q, a1, a2, a3] (vR 102 q :: st) S := st_ rfl
set_option maxRecDepth 100000 in
theorem s287_901 {j : Nat} {a0 : av} {a1 : av} {a2 : av} {st : List av} (x : Int32) (S : Sto) : run 287 j 901 [a0, a1, a2, vI x] st S = run 287 j 902 [a0, a1, a2, vI x] (vI x :: st) S := st_ rfl
set_option maxRecDepth 100000 in
theorem s287_902 {j : Nat} {a0 : av} {a1 : av} {a2 : av} {a3 : av} {st : List av} (S : Sto) : run 287 j 902 [a0, a1, a2, a3] st S = run 287 j 903 [a0, a1, a2, a3] (vI 1 :: st) S := st_ rfl
set_option maxRecDepth 100000 in
theorem s287_903 {j : Nat} {a0 : av} {a1 : av} {a2 : av} {a3 : av} {st : List av} (x y : Int32) (S : Sto) : run 287 j 903 [a0, a1, a2, a3] (vI y :: vI x :: st) S = run 287 j 904 [a0, a1, a2, a3] (vI (x + y) :: st) S := st_ rfl
set_option maxRecDepth 100000 in
theorem s287_904 {j : Nat} {a0 : av} {a1 : av} {a2 : av} {a3 : av} {st : List av} (x : Int32) (q : Nat) (S : Sto) : run 287 j 904 [a0, a1, a2, a3] (vI x :: vR 102 q :: st) S = if ib x (S.1 103 0 0).toNatClampNeg then run 287 j 905 [a0, a1, a2, a3] (vI (S.1 102 q x.toNatClampNeg) :: st) S else none := st_itN rfl
set_option maxRecDepth 100000 in
theorem s287_905 {j : Nat} {a0 : av} {a1 : av} {a2 : av} {a3 : av} (x0 : Int32) (x1 : Nat) (x2 : Int32) (S : Sto) : run 287 j 905 [a0, a1, a2, a3] [vI x0, vR 50 x1, vI x2] S = bV (call 213 0 [vR 50 x1, vI x0] S) (fun v S' => run 287 j 908 [a0, a1, a2, a3] (v :: [vI x2]) S') := st_cV rfl
set_option maxRecDepth 100000 in
theorem s287_908 {j : Nat} {a0 : av} {a1 : av} {a2 : av} {a3 : av} {st : List av} (x y : Int32) (S : Sto) : run 287 j 908 [a0, a1, a2, a3] (vI y :: vI x :: st) S = if x = y then run 287 j 1470 [a0, a1, a2, a3] st S else run 287 j 911 [a0, a1, a2, a3] st S := st_ite rfl
set_option maxRecDepth 100000 in
theorem s287_911 {j : Nat} {a0 : av} {a1 : av} {a2 : av} {a3 : av} {st : List av} (S : Sto) : run 287 j 911 [a0, a1, a2, a3] st S = run 287 j 912 [a0, a1, a2, a3] (vI 0 :: st) S := st_ rfl
set_option maxRecDepth 100000 in
theorem s287_912 {j : Nat} {a0 : av} {a1 : av} {a2 : av} {a3 : av} (x : Int32) (S : Sto) : run 287 j 912 [a0, a1, a2, a3] [vI x] S = if vp_nar .boolean x = x then some (some (vI x), S) else none := st_rb rfl
set_option maxRecDepth 100000 in
theorem s287_913 {j : Nat} {a0 : av} {a2 : av} {a3 : av} {st : List av} (q : Nat) (S : Sto) : run 287 j 913 [a0, vR 0 q, a2, a3] st S = run 287 j 914 [a0, vR 0 q, a2, a3] (vR 0 q :: st) S := st_ rfl
set_option maxRecDepth 100000 in
theorem s287_914 {j : Nat} {a1 : av} {a2 : av} {a3 : av} {st : List av} (q : Nat) (S : Sto) : run 287 j 914 [vR 102 q, a1, a2, a3] st S = run 287 j 915 [vR 102 q, a1, a2, a3] (vR 102 q :: st) S := st_ rfl
set_option maxRecDepth 100000 in
theorem s287_915 {j : Nat} {a0 : av} {a1 : av} {a2 : av} {st : List av} (x : Int32) (S : Sto) : run 287 j 915 [a0, a1, a2, vI x] st S = run 287 j 916 [a0, a1, a2, vI x] (vI x :: st) S := st_ rfl
set_option maxRecDepth 100000 in
theorem s287_916 {j : Nat} {a0 : av} {a1 : av} {a2 : av} {a3 : av} {st : List av} (S : Sto) : run 287 j 916 [a0, a1, a2, a3] st S = run 287 j 917 [a0, a1, a2, a3] (vI 1 :: st) S := st_ rfl
set_option maxRecDepth 100000 in
theorem s287_917 {j : Nat} {a0 : av} {a1 : av} {a2 : av} {a3 : av} {st : List av} (x y : Int32) (S : Sto) : run 287 j 917 [a0, a1, a2, a3] (vI y :: vI x :: st) S = run 287 j 918 [a0, a1, a2, a3] (vI (x + y) :: st) S := st_ rfl
set_option maxRecDepth 100000 in
theorem s287_918 {j : Nat} {a0 : av} {a1 : av} {a2 : av} {a3 : av} {st : List av} (x : Int32) (q : Nat) (S : Sto) : run 287 j 918 [a0, a1, a2, a3] (vI x :: vR 102 q :: st) S = if ib x (S.1 103 0 0).toNatClampNeg then run 287 j 919 [a0, a1, a2, a3] (vI (S.1 102 q x.toNatClampNeg) :: st) S else none := st_itN rfl
set_option maxRecDepth 100000 in
theorem s287_919 {j : Nat} {a1 : av} {a2 : av} {a3 : av} {st : List av} (q : Nat) (S : Sto) : run 287 j 919 [vR 102 q, a1, a2, a3] st S = run 287 j 920 [vR 102 q, a1, a2, a3] (vR 102 q :: st) S := st_ rfl
set_option maxRecDepth 100000 in
theorem s287_920 {j : Nat} {a0 : av} {a1 : av} {a2 : av} {st : List av} (x : Int32) (S : Sto) : run 287 j 920 [a0, a1, a2, vI x] st S = run 287 j 921 [a0, a1, a2, vI x] (vI x :: st) S := st_ rfl
set_option maxRecDepth 100000 in
theorem s287_921 {j : Nat} {a0 : av} {a1 : av} {a2 : av} {a3 : av} {st : List av} (S : Sto) : run 287 j 921 [a0, a1, a2, a3] st S = run 287 j 922 [a0, a1, a2, a3] (vI 2 :: st) S := st_ rfl
set_option maxRecDepth 100000 in
theorem s287_922 {j : Nat} {a0 : av} {a1 : av} {a2 : av} {a3 : av} {st : List av} (x y : Int32) (S : Sto) : run 287 j 922 [a0, a1, a2, a3] (vI y :: vI x :: st) S = run 287 j 923 [a0, a1, a2, a3] (vI (x + y) :: st) S := st_ rfl
set_option maxRecDepth 100000 in
theorem s287_923 {j : Nat} {a0 : av} {a1 : av} {a2 : av} {a3 : av} {st : List av} (x : Int32) (q : Nat) (S : Sto) : run 287 j 923 [a0, a1, a2, a3] (vI x :: vR 102 q :: st) S = if ib x (S.1 103 0 0).toNatClampNeg then run 287 j 924 [a0, a1, a2, a3] (vI (S.1 102 q x.toNatClampNeg) :: st) S else none := st_itN rfl
set_option maxRecDepth 100000 in
theorem s287_924 {j : Nat} {a0 : av} {a1 : av} {a2 : av} {a3 : av} (x0 : Int32) (x1 : Int32) (x2 : Nat) (S : Sto) : run 287 j 924 [a0, a1, a2, a3] [vI x0, vI x1, vR 0 x2] S = bV (call 116 0 [vR 0 x2, vI x1, vI x0] S) (fun v S' => run 287 j 927 [a0, a1, a2, a3] (v :: []) S') := st_cV rfl
set_option maxRecDepth 100000 in
theorem s287_927 {j : Nat} {a0 : av} {a1 : av} {a3 : av} {st : List av} (q : Nat) (S : Sto) : run 287 j 927 [a0, a1, vR 50 q, a3] st S = run 287 j 928 [a0, a1, vR 50 q, a3] (vR 50 q :: st) S := st_ rfl
set_option maxRecDepth 100000 in
theorem s287_928 {j : Nat} {a1 : av} {a2 : av} {a3 : av} {st : List av} (q : Nat) (S : Sto) : run 287 j 928 [vR 102 q, a1, a2, a3] st S = run 287 j 929 [vR 102 q, a1, a2, a3] (vR 102 q :: st) S := st_ rfl
set_option maxRecDepth 100000 in
theorem s287_929 {j : Nat} {a0 : av} {a1 : av} {a2 : av} {st : List av} (x : Int32) (S : Sto) : run 287 j 929 [a0, a1, a2, vI x] st S = run 287 j 930 [a0, a1, a2, vI x] (vI x :: st) S := st_ rfl
set_option maxRecDepth 100000 in
theorem s287_930 {j : Nat} {a0 : av} {a1 : av} {a2 : av} {a3 : av} {st : List av} (S : Sto) : run 287 j 930 [a0, a1, a2, a3] st S = run 287 j 931 [a0, a1, a2, a3] (vI 1 :: st) S := st_ rfl
set_option maxRecDepth 100000 in
theorem s287_931 {j : Nat} {a0 : av} {a1 : av} {a2 : av} {a3 : av} {st : List av} (x y : Int32) (S : Sto) : run 287 j 931 [a0, a1, a2, a3] (vI y :: vI x :: st) S = run 287 j 932 [a0, a1, a2, a3] (vI (x + y) :: st) S := st_ rfl
set_option maxRecDepth 100000 in
theorem s287_932 {j : Nat} {a0 : av} {a1 : av} {a2 : av} {a3 : av} {st : List av} (x : Int32) (q : Nat) (S : Sto) : run 287 j 932 [a0, a1, a2, a3] (vI x :: vR 102 q :: st) S = if ib x (S.1 103 0 0).toNatClampNeg then run 287 j 933 [a0, a1, a2, a3] (vI (S.1 102 q x.toNatClampNeg) :: st) S else none := st_itN rfl
set_option maxRecDepth 100000 in
theorem s287_933 {j : Nat} {a1 : av} {a2 : av} {a3 : av} {st : List av} (q : Nat) (S : Sto) : run 287 j 933 [vR 102 q, a1, a2, a3] st S = run 287 j 934 [vR 102 q, a1, a2, a3] (vR 102 q :: st) S := st_ rfl
set_option maxRecDepth 100000 in
theorem s287_934 {j : Nat} {a0 : av} {a1 : av} {a2 : av} {st : List av} (x : Int32) (S : Sto) : run 287 j 934 [a0, a1, a2, vI x] st S = run 287 j 935 [a0, a1, a2, vI x] (vI x :: st) S := st_ rfl
set_option maxRecDepth 100000 in
theorem s287_935 {j : Nat} {a0 : av} {a1 : av} {a2 : av} {a3 : av} {st : List av} (S : Sto) : run 287 j 935 [a0, a1, a2, a3] st S = run 287 j 936 [a0, a1, a2, a3] (vI 2 :: st) S := st_ rfl
set_option maxRecDepth 100000 in
theorem s287_936 {j : Nat} {a0 : av} {a1 : av} {a2 : av} {a3 : av} {st : List av} (x y : Int32) (S : Sto) : run 287 j 936 [a0, a1, a2, a3] (vI y :: vI x :: st) S = run 287 j 937 [a0, a1, a2, a3] (vI (x + y) :: st) S := st_ rfl
set_option maxRecDepth 100000 in
theorem s287_937 {j : Nat} {a0 : av} {a1 : av} {a2 : av} {a3 : av} {st : List av} (x : Int32) (q : Nat) (S : Sto) : run 287 j 937 [a0, a1, a2, a3] (vI x :: vR 102 q :: st) S = if ib x (S.1 103 0 0).toNatClampNeg then run 287 j 938 [a0, a1, a2, a3] (vI (S.1 102 q x.toNatClampNeg) :: st) S else none := st_itN rfl
set_option maxRecDepth 100000 in
theorem s287_938 {j : Nat} {a0 : av} {a1 : av} {a2 : av} {a3 : av} (x0 : Int32) (x1 : Int32) (x2 : Nat) (x3 : Int32) (S : Sto) : run 287 j 938 [a0, a1, a2, a3] [vI x0, vI x1, vR 50 x2, vI x3] S = bV (call 214 0 [vR 50 x2, vI x1, vI x0] S) (fun v S' => run 287 j 941 [a0, a1, a2, a3] (v :: [vI x3]) S') := st_cV rfl
set_option maxRecDepth 100000 in
theorem s287_941 {j : Nat} {a0 : av} {a1 : av} {a2 : av} {a3 : av} {st : List av} (x y : Int32) (S : Sto) : run 287 j 941 [a0, a1, a2, a3] (vI y :: vI x :: st) S = if x = y then run 287 j 1470 [a0, a1, a2, a3] st S else run 287 j 944 [a0, a1, a2, a3] st S := st_ite rfl
set_option maxRecDepth 100000 in
theorem s287_944 {j : Nat} {a0 : av} {a1 : av} {a2 : av} {a3 : av} {st : List av} (S : Sto) : run 287 j 944 [a0, a1, a2, a3] st S = run 287 j 945 [a0, a1, a2, a3] (vI 0 :: st) S := st_ rfl
set_option maxRecDepth 100000 in
theorem s287_945 {j : Nat} {a0 : av} {a1 : av} {a2 : av} {a3 : av} (x : Int32) (S : Sto) : run 287 j 945 [a0, a1, a2, a3] [vI x] S = if vp_nar .boolean x = x then some (some (vI x), S) else none := st_rb rfl
set_option maxRecDepth 100000 in
theorem s287_946 {j : Nat} {a0 : av} {a2 : av} {a3 : av} {st : List av} (q : Nat) (S : Sto) : run 287 j 946 [a0, vR 0 q, a2, a3] st S = run 287 j 947 [a0, vR 0 q, a2, a3] (vR 0 q :: st) S := st_ rfl
set_option maxRecDepth 100000 in
theorem s287_947 {j : Nat} {a1 : av} {a2 : av} {a3 : av} {st : List av} (q : Nat) (S : Sto) : run 287 j 947 [vR 102 q, a1, a2, a3] st S = run 287 j 948 [vR 102 q, a1, a2, a3] (vR 102 q :: st) S := st_ rfl
set_option maxRecDepth 100000 in
theorem s287_948 {j : Nat} {a0 : av} {a1 : av} {a2 : av} {st : List av} (x : Int32) (S : Sto) : run 287 j 948 [a0, a1, a2, vI x] st S = run 287 j 949 [a0, a1, a2, vI x] (vI x :: st) S := st_ rfl
set_option maxRecDepth 100000 in
theorem s287_949 {j : Nat} {a0 : av} {a1 : av} {a2 : av} {a3 : av} {st : List av} (S : Sto) : run 287 j 949 [a0, a1, a2, a3] st S = run 287 j 950 [a0, a1, a2, a3] (vI 1 :: st) S := st_ rfl
set_option maxRecDepth 100000 in
theorem s287_950 {j : Nat} {a0 : av} {a1 : av} {a2 : av} {a3 : av} {st : List av} (x y : Int32) (S : Sto) : run 287 j 950 [a0, a1, a2, a3] (vI y :: vI x :: st) S = run 287 j 951 [a0, a1, a2, a3] (vI (x + y) :: st) S := st_ rfl
set_option maxRecDepth 100000 in
theorem s287_951 {j : Nat} {a0 : av} {a1 : av} {a2 : av} {a3 : av} {st : List av} (x : Int32) (q : Nat) (S : Sto) : run 287 j 951 [a0, a1, a2, a3] (vI x :: vR 102 q :: st) S = if ib x (S.1 103 0 0).toNatClampNeg then run 287 j 952 [a0, a1, a2, a3] (vI (S.1 102 q x.toNatClampNeg) :: st) S else none := st_itN rfl
set_option maxRecDepth 100000 in
theorem s287_952 {j : Nat} {a1 : av} {a2 : av} {a3 : av} {st : List av} (q : Nat) (S : Sto) : run 287 j 952 [vR 102 q, a1, a2, a3] st S = run 287 j 953 [vR 102 q, a1, a2, a3] (vR 102 q :: st) S := st_ rfl
set_option maxRecDepth 100000 in
theorem s287_953 {j : Nat} {a0 : av} {a1 : av} {a2 : av} {st : List av} (x : Int32) (S : Sto) : run 287 j 953 [a0, a1, a2, vI x] st S = run 287 j 954 [a0, a1, a2, vI x] (vI x :: st) S := st_ rfl
set_option maxRecDepth 100000 in
theorem s287_954 {j : Nat} {a0 : av} {a1 : av} {a2 : av} {a3 : av} {st : List av} (S : Sto) : run 287 j 954 [a0, a1, a2, a3] st S = run 287 j 955 [a0, a1, a2, a3] (vI 2 :: st) S := st_ rfl
set_option maxRecDepth 100000 in
theorem s287_955 {j : Nat} {a0 : av} {a1 : av} {a2 : av} {a3 : av} {st : List av} (x y : Int32) (S : Sto) : run 287 j 955 [a0, a1, a2, a3] (vI y :: vI x :: st) S = run 287 j 956 [a0, a1, a2, a3] (vI (x + y) :: st) S := st_ rfl
set_option maxRecDepth 100000 in
theorem s287_956 {j : Nat} {a0 : av} {a1 : av} {a2 : av} {a3 : av} {st : List av} (x : Int32) (q : Nat) (S : Sto) : run 287 j 956 [a0, a1, a2, a3] (vI x :: vR 102 q :: st) S = if ib x (S.1 103 0 0).toNatClampNeg then run 287 j 957 [a0, a1, a2, a3] (vI (S.1 102 q x.toNatClampNeg) :: st) S else none := st_itN rfl
set_option maxRecDepth 100000 in
theorem s287_957 {j : Nat} {a0 : av} {a1 : av} {a2 : av} {a3 : av} (x0 : Int32) (x1 : Int32) (x2 : Nat) (S : Sto) : run 287 j 957 [a0, a1, a2, a3] [vI x0, vI x1, vR 0 x2] S = bV (call 118 0 [vR 0 x2, vI x1, vI x0] S) (fun v S' => run 287 j 960 [a0, a1, a2, a3] (v :: []) S') := st_cV rfl
set_option maxRecDepth 100000 in
theorem s287_960 {j : Nat} {a0 : av} {a1 : av} {a3 : av} {st : List av} (q : Nat) (S : Sto) : run 287 j 960 [a0, a1, vR 50 q, a3] st S = run 287 j 961 [a0, a1, vR 50 q, a3] (vR 50 q :: st) S := st_ rfl
set_option maxRecDepth 100000 in
theorem s287_961 {j : Nat} {a1 : av} {a2 : av} {a3 : av} {st : List av} (q : Nat) (S : Sto) : run 287 j 961 [vR 102 q, a1, a2, a3] st S = run 287 j 962 [vR 102 q, a1, a2, a3] (vR 102 q :: st) S := st_ rfl
set_option maxRecDepth 100000 in
theorem s287_962 {j : Nat} {a0 : av} {a1 : av} {a2 : av} {st : List av} (x : Int32) (S : Sto) : run 287 j 962 [a0, a1, a2, vI x] st S = run 287 j 963 [a0, a1, a2, vI x] (vI x :: st) S := st_ rfl
set_option maxRecDepth 100000 in
theorem s287_963 {j : Nat} {a0 : av} {a1 : av} {a2 : av} {a3 : av} {st : List av} (S : Sto) : run 287 j 963 [a0, a1, a2, a3] st S = run 287 j 964 [a0, a1, a2, a3] (vI 1 :: st) S := st_ rfl
set_option maxRecDepth 100000 in
theorem s287_964 {j : Nat} {a0 : av} {a1 : av} {a2 : av} {a3 : av} {st : List av} (x y : Int32) (S : Sto) : run 287 j 964 [a0, a1, a2, a3] (vI y :: vI x :: st) S = run 287 j 965 [a0, a1, a2, a3] (vI (x + y) :: st) S := st_ rfl
set_option maxRecDepth 100000 in
theorem s287_965 {j : Nat} {a0 : av} {a1 : av} {a2 : av} {a3 : av} {st : List av} (x : Int32) (q : Nat) (S : Sto) : run 287 j 965 [a0, a1, a2, a3] (vI x :: vR 102 q :: st) S = if ib x (S.1 103 0 0).toNatClampNeg then run 287 j 966 [a0, a1, a2, a3] (vI (S.1 102 q x.toNatClampNeg) :: st) S else none := st_itN rfl
set_option maxRecDepth 100000 in
theorem s287_966 {j : Nat} {a1 : av} {a2 : av} {a3 : av} {st : List av} (q : Nat) (S : Sto) : run 287 j 966 [vR 102 q, a1, a2, a3] st S = run 287 j 967 [vR 102 q, a1, a2, a3] (vR 102 q :: st) S := st_ rfl
set_option maxRecDepth 100000 in
theorem s287_967 {j : Nat} {a0 : av} {a1 : av} {a2 : av} {st : List av} (x : Int32) (S : Sto) : run 287 j 967 [a0, a1, a2, vI x] st S = run 287 j 968 [a0, a1, a2, vI x] (vI x :: st) S := st_ rfl
set_option maxRecDepth 100000 in
theorem s287_968 {j : Nat} {a0 : av} {a1 : av} {a2 : av} {a3 : av} {st : List av} (S : Sto) : run 287 j 968 [a0, a1, a2, a3] st S = run 287 j 969 [a0, a1, a2, a3] (vI 2 :: st) S := st_ rfl
set_option maxRecDepth 100000 in
theorem s287_969 {j : Nat} {a0 : av} {a1 : av} {a2 : av} {a3 : av} {st : List av} (x y : Int32) (S : Sto) : run 287 j 969 [a0, a1, a2, a3] (vI y :: vI x :: st) S = run 287 j 970 [a0, a1, a2, a3] (vI (x + y) :: st) S := st_ rfl
set_option maxRecDepth 100000 in
theorem s287_970 {j : Nat} {a0 : av} {a1 : av} {a2 : av} {a3 : av} {st : List av} (x : Int32) (q : Nat) (S : Sto) : run 287 j 970 [a0, a1, a2, a3] (vI x :: vR 102 q :: st) S = if ib x (S.1 103 0 0).toNatClampNeg then run 287 j 971 [a0, a1, a2, a3] (vI (S.1 102 q x.toNatClampNeg) :: st) S else none := st_itN rfl
set_option maxRecDepth 100000 in
theorem s287_971 {j : Nat} {a0 : av} {a1 : av} {a2 : av} {a3 : av} (x0 : Int32) (x1 : Int32) (x2 : Nat) (x3 : Int32) (S : Sto) : run 287 j 971 [a0, a1, a2, a3] [vI x0, vI x1, vR 50 x2, vI x3] S = bV (call 219 0 [vR 50 x2, vI x1, vI x0] S) (fun v S' => run 287 j 974 [a0, a1, a2, a3] (v :: [vI x3]) S') := st_cV rfl
set_option maxRecDepth 100000 in
theorem s287_974 {j : Nat} {a0 : av} {a1 : av} {a2 : av} {a3 : av} {st : List av} (x y : Int32) (S : Sto) : run 287 j 974 [a0, a1, a2, a3] (vI y :: vI x :: st) S = if x = y then run 287 j 1470 [a0, a1, a2, a3] st S else run 287 j 977 [a0, a1, a2, a3] st S := st_ite rfl
set_option maxRecDepth 100000 in
theorem s287_977 {j : Nat} {a0 : av} {a1 : av} {a2 : av} {a3 : av} {st : List av} (S : Sto) : run 287 j 977 [a0, a1, a2, a3] st S = run 287 j 978 [a0, a1, a2, a3] (vI 0 :: st) S := st_ rfl
set_option maxRecDepth 100000 in
theorem s287_978 {j : Nat} {a0 : av} {a1 : av} {a2 : av} {a3 : av} (x : Int32) (S : Sto) : run 287 j 978 [a0, a1, a2, a3] [vI x] S = if vp_nar .boolean x = x then some (some (vI x), S) else none := st_rb rfl
set_option maxRecDepth 100000 in
theorem s287_979 {j : Nat} {a0 : av} {a2 : av} {a3 : av} {st : List av} (q : Nat) (S : Sto) : run 287 j 979 [a0, vR 0 q, a2, a3] st S = run 287 j 980 [a0, vR 0 q, a2, a3] (vR 0 q :: st) S := st_ rfl
set_option maxRecDepth 100000 in
theorem s287_980 {j : Nat} {a1 : av} {a2 : av} {a3 : av} {st : List av} (q : Nat) (S : Sto) : run 287 j 980 [vR 102 q, a1, a2, a3] st S = run 287 j 981 [vR 102 q, a1, a2, a3] (vR 102 q :: st) S := st_ rfl
set_option maxRecDepth 100000 in
theorem s287_981 {j : Nat} {a0 : av} {a1 : av} {a2 : av} {st : List av} (x : Int32) (S : Sto) : run 287 j 981 [a0, a1, a2, vI x] st S = run 287 j 982 [a0, a1, a2, vI x] (vI x :: st) S := st_ rfl
set_option maxRecDepth 100000 in
theorem s287_982 {j : Nat} {a0 : av} {a1 : av} {a2 : av} {a3 : av} {st : List av} (S : Sto) : run 287 j 982 [a0, a1, a2, a3] st S = run 287 j 983 [a0, a1, a2, a3] (vI 1 :: st) S := st_ rfl
set_option maxRecDepth 100000 in
theorem s287_983 {j : Nat} {a0 : av} {a1 : av} {a2 : av} {a3 : av} {st : List av} (x y : Int32) (S : Sto) : run 287 j 983 [a0, a1, a2, a3] (vI y :: vI x :: st) S = run 287 j 984 [a0, a1, a2, a3] (vI (x + y) :: st) S := st_ rfl
set_option maxRecDepth 100000 in
theorem s287_984 {j : Nat} {a0 : av} {a1 : av} {a2 : av} {a3 : av} {st : List av} (x : Int32) (q : Nat) (S : Sto) : run 287 j 984 [a0, a1, a2, a3] (vI x :: vR 102 q :: st) S = if ib x (S.1 103 0 0).toNatClampNeg then run 287 j 985 [a0, a1, a2, a3] (vI (S.1 102 q x.toNatClampNeg) :: st) S else none := st_itN rfl
set_option maxRecDepth 100000 in
theorem s287_985 {j : Nat} {a1 : av} {a2 : av} {a3 : av} {st : List av} (q : Nat) (S : Sto) : run 287 j 985 [vR 102 q, a1, a2, a3] st S = run 287 j 986 [vR 102 q, a1, a2, a3] (vR 102 q :: st) S := st_ rfl
set_option maxRecDepth 100000 in
theorem s287_986 {j : Nat} {a0 : av} {a1 : av} {a2 : av} {st : List av} (x : Int32) (S : Sto) : run 287 j 986 [a0, a1, a2, vI x] st S = run 287 j 987 [a0, a1, a2, vI x] (vI x :: st) S := st_ rfl
set_option maxRecDepth 100000 in
theorem s287_987 {j : Nat} {a0 : av} {a1 : av} {a2 : av} {a3 : av} {st : List av} (S : Sto) : run 287 j 987 [a0, a1, a2, a3] st S = run 287 j 988 [a0, a1, a2, a3] (vI 2 :: st) S := st_ rfl
set_option maxRecDepth 100000 in
theorem s287_988 {j : Nat} {a0 : av} {a1 : av} {a2 : av} {a3 : av} {st : List av} (x y : Int32) (S : Sto) : run 287 j 988 [a0, a1, a2, a3] (vI y :: vI x :: st) S = run 287 j 989 [a0, a1, a2, a3] (vI (x + y) :: st) S := st_ rfl
set_option maxRecDepth 100000 in
theorem s287_989 {j : Nat} {a0 : av} {a1 : av} {a2 : av} {a3 : av} {st : List av} (x : Int32) (q : Nat) (S : Sto) : run 287 j 989 [a0, a1, a2, a3] (vI x :: vR 102 q :: st) S = if ib x (S.1 103 0 0).toNatClampNeg then run 287 j 990 [a0, a1, a2, a3] (vI (S.1 102 q x.toNatClampNeg) :: st) S else none := st_itN rfl
set_option maxRecDepth 100000 in
theorem s287_990 {j : Nat} {a0 : av} {a1 : av} {a2 : av} {a3 : av} (x0 : Int32) (x1 : Int32) (x2 : Nat) (S : Sto) : run 287 j 990 [a0, a1, a2, a3] [vI x0, vI x1, vR 0 x2] S = bV (call 119 0 [vR 0 x2, vI x1, vI x0] S) (fun v S' => run 287 j 993 [a0, a1, a2, a3] (v :: []) S') := st_cV rfl
set_option maxRecDepth 100000 in
theorem s287_993 {j : Nat} {a0 : av} {a1 : av} {a3 : av} {st : List av} (q : Nat) (S : Sto) : run 287 j 993 [a0, a1, vR 50 q, a3] st S = run 287 j 994 [a0, a1, vR 50 q, a3] (vR 50 q :: st) S := st_ rfl
set_option maxRecDepth 100000 in
theorem s287_994 {j : Nat} {a1 : av} {a2 : av} {a3 : av} {st : List av} (q : Nat) (S : Sto) : run 287 j 994 [vR 102 q, a1, a2, a3] st S = run 287 j 995 [vR 102 q, a1, a2, a3] (vR 102 q :: st) S := st_ rfl
set_option maxRecDepth 100000 in
theorem s287_995 {j : Nat} {a0 : av} {a1 : av} {a2 : av} {st : List av} (x : Int32) (S : Sto) : run 287 j 995 [a0, a1, a2, vI x] st S = run 287 j 996 [a0, a1, a2, vI x] (vI x :: st) S := st_ rfl
set_option maxRecDepth 100000 in
theorem s287_996 {j : Nat} {a0 : av} {a1 : av} {a2 : av} {a3 : av} {st : List av} (S : Sto) : run 287 j 996 [a0, a1, a2, a3] st S = run 287 j 997 [a0, a1, a2, a3] (vI 1 :: st) S := st_ rfl
set_option maxRecDepth 100000 in
theorem s287_997 {j : Nat} {a0 : av} {a1 : av} {a2 : av} {a3 : av} {st : List av} (x y : Int32) (S : Sto) : run 287 j 997 [a0, a1, a2, a3] (vI y :: vI x :: st) S = run 287 j 998 [a0, a1, a2, a3] (vI (x + y) :: st) S := st_ rfl
set_option maxRecDepth 100000 in
theorem s287_998 {j : Nat} {a0 : av} {a1 : av} {a2 : av} {a3 : av} {st : List av} (x : Int32) (q : Nat) (S : Sto) : run 287 j 998 [a0, a1, a2, a3] (vI x :: vR 102 q :: st) S = if ib x (S.1 103 0 0).toNatClampNeg then run 287 j 999 [a0, a1, a2, a3] (vI (S.1 102 q x.toNatClampNeg) :: st) S else none := st_itN rfl
set_option maxRecDepth 100000 in
theorem s287_999 {j : Nat} {a1 : av} {a2 : av} {a3 : av} {st : List av} (q : Nat) (S : Sto) : run 287 j 999 [vR 102 q, a1, a2, a3] st S = run 287 j 1000 [vR 102 q, a1, a2, a3] (vR 102 q :: st) S := st_ rfl
set_option maxRecDepth 100000 in
theorem s287_1000 {j : Nat} {a0 : av} {a1 : av} {a2 : av} {st : List av} (x : Int32) (S : Sto) : run 287 j 1000 [a0, a1, a2, vI x] st S = run 287 j 1001 [a0, a1, a2, vI x] (vI x :: st) S := st_ rfl
set_option maxRecDepth 100000 in
theorem s287_1001 {j : Nat} {a0 : av} {a1 : av} {a2 : av} {a3 : av} {st : List av} (S : Sto) : run 287 j 1001 [a0, a1, a2, a3] st S = run 287 j 1002 [a0, a1, a2, a3] (vI 2 :: st) S := st_ rfl
set_option maxRecDepth 100000 in
theorem s287_1002 {j : Nat} {a0 : av} {a1 : av} {a2 : av} {a3 : av} {st : List av} (x y : Int32) (S : Sto) : run 287 j 1002 [a0, a1, a2, a3] (vI y :: vI x :: st) S = run 287 j 1003 [a0, a1, a2, a3] (vI (x + y) :: st) S := st_ rfl
set_option maxRecDepth 100000 in
theorem s287_1003 {j : Nat} {a0 : av} {a1 : av} {a2 : av} {a3 : av} {st : List av} (x : Int32) (q : Nat) (S : Sto) : run 287 j 1003 [a0, a1, a2, a3] (vI x :: vR 102 q :: st) S = if ib x (S.1 103 0 0).toNatClampNeg then run 287 j 1004 [a0, a1, a2, a3] (vI (S.1 102 q x.toNatClampNeg) :: st) S else none := st_itN rfl
set_option maxRecDepth 100000 in
theorem s287_1004 {j : Nat} {a0 : av} {a1 : av} {a2 : av} {a3 : av} (x0 : Int32) (x1 : Int32) (x2 : Nat) (x3 : Int32) (S : Sto) : run 287 j 1004 [a0, a1, a2, a3] [vI x0, vI x1, vR 50 x2, vI x3] S = bV (call 220 0 [vR 50 x2, vI x1, vI x0] S) (fun v S' => run 287 j 1007 [a0, a1, a2, a3] (v :: [vI x3]) S') := st_cV rfl
set_option maxRecDepth 100000 in
theorem s287_1007 {j : Nat} {a0 : av} {a1 : av} {a2 : av} {a3 : av} {st : List av} (x y : Int32) (S : Sto) : run 287 j 1007 [a0, a1, a2, a3] (vI y :: vI x :: st) S = if x = y then run 287 j 1470 [a0, a1, a2, a3] st S else run 287 j 1010 [a0, a1, a2, a3] st S := st_ite rfl
set_option maxRecDepth 100000 in
theorem s287_1010 {j : Nat} {a0 : av} {a1 : av} {a2 : av} {a3 : av} {st : List av} (S : Sto) : run 287 j 1010 [a0, a1, a2, a3] st S = run 287 j 1011 [a0, a1, a2, a3] (vI 0 :: st) S := st_ rfl
set_option maxRecDepth 100000 in
theorem s287_1011 {j : Nat} {a0 : av} {a1 : av} {a2 : av} {a3 : av} (x : Int32) (S : Sto) : run 287 j 1011 [a0, a1, a2, a3] [vI x] S = if vp_nar .boolean x = x then some (some (vI x), S) else none := st_rb rfl
set_option maxRecDepth 100000 in
theorem s287_1012 {j : Nat} {a0 : av} {a2 : av} {a3 : av} {st : List av} (q : Nat) (S : Sto) : run 287 j 1012 [a0, vR 0 q, a2, a3] st S = run 287 j 1013 [a0, vR 0 q, a2, a3] (vR 0 q :: st) S := st_ rfl
set_option maxRecDepth 100000 in
theorem s287_1013 {j : Nat} {a1 : av} {a2 : av} {a3 : av} {st : List av} (q : Nat) (S : Sto) : run 287 j 1013 [vR 102 q, a1, a2, a3] st S = run 287 j 1014 [vR 102 q, a1, a2, a3] (vR 102 q :: st) S := st_ rfl
set_option maxRecDepth 100000 in
theorem s287_1014 {j : Nat} {a0 : av} {a1 : av} {a2 : av} {st : List av} (x : Int32) (S : Sto) : run 287 j 1014 [a0, a1, a2, vI x] st S = run 287 j 1015 [a0, a1, a2, vI x] (vI x :: st) S := st_ rfl
set_option maxRecDepth 100000 in
theorem s287_1015 {j : Nat} {a0 : av} {a1 : av} {a2 : av} {a3 : av} {st : List av} (S : Sto) : run 287 j 1015 [a0, a1, a2, a3] st S = run 287 j 1016 [a0, a1, a2, a3] (vI 1 :: st) S := st_ rfl
set_option maxRecDepth 100000 in
theorem s287_1016 {j : Nat} {a0 : av} {a1 : av} {a2 : av} {a3 : av} {st : List av} (x y : Int32) (S : Sto) : run 287 j 1016 [a0, a1, a2, a3] (vI y :: vI x :: st) S = run 287 j 1017 [a0, a1, a2, a3] (vI (x + y) :: st) S := st_ rfl
set_option maxRecDepth 100000 in
theorem s287_1017 {j : Nat} {a0 : av} {a1 : av} {a2 : av} {a3 : av} {st : List av} (x : Int32) (q : Nat) (S : Sto) : run 287 j 1017 [a0, a1, a2, a3] (vI x :: vR 102 q :: st) S = if ib x (S.1 103 0 0).toNatClampNeg then run 287 j 1018 [a0, a1, a2, a3] (vI (S.1 102 q x.toNatClampNeg) :: st) S else none := st_itN rfl
set_option maxRecDepth 100000 in
theorem s287_1018 {j : Nat} {a1 : av} {a2 : av} {a3 : av} {st : List av} (q : Nat) (S : Sto) : run 287 j 1018 [vR 102 q, a1, a2, a3] st S = run 287 j 1019 [vR 102 q, a1, a2, a3] (vR 102 q :: st) S := st_ rfl
set_option maxRecDepth 100000 in
theorem s287_1019 {j : Nat} {a0 : av} {a1 : av} {a2 : av} {st : List av} (x : Int32) (S : Sto) : run 287 j 1019 [a0, a1, a2, vI x] st S = run 287 j 1020 [a0, a1, a2, vI x] (vI x :: st) S := st_ rfl
set_option maxRecDepth 100000 in
theorem s287_1020 {j : Nat} {a0 : av} {a1 : av} {a2 : av} {a3 : av} {st : List av} (S : Sto) : run 287 j 1020 [a0, a1, a2, a3] st S = run 287 j 1021 [a0, a1, a2, a3] (vI 2 :: st) S := st_ rfl
set_option maxRecDepth 100000 in
theorem s287_1021 {j : Nat} {a0 : av} {a1 : av} {a2 : av} {a3 : av} {st : List av} (x y : Int32) (S : Sto) : run 287 j 1021 [a0, a1, a2, a3] (vI y :: vI x :: st) S = run 287 j 1022 [a0, a1, a2, a3] (vI (x + y) :: st) S := st_ rfl
set_option maxRecDepth 100000 in
theorem s287_1022 {j : Nat} {a0 : av} {a1 : av} {a2 : av} {a3 : av} {st : List av} (x : Int32) (q : Nat) (S : Sto) : run 287 j 1022 [a0, a1, a2, a3] (vI x :: vR 102 q :: st) S = if ib x (S.1 103 0 0).toNatClampNeg then run 287 j 1023 [a0, a1, a2, a3] (vI (S.1 102 q x.toNatClampNeg) :: st) S else none := st_itN rfl
set_option maxRecDepth 100000 in
theorem s287_1023 {j : Nat} {a0 : av} {a1 : av} {a2 : av} {a3 : av} (x0 : Int32) (x1 : Int32) (x2 : Nat) (S : Sto) : run 287 j 1023 [a0, a1, a2, a3] [vI x0, vI x1, vR 0 x2] S = bV (call 120 0 [vR 0 x2, vI x1, vI x0] S) (fun v S' => run 287 j 1026 [a0, a1, a2, a3] (v :: []) S') := st_cV rfl
set_option maxRecDepth 100000 in
theorem s287_1026 {j : Nat} {a0 : av} {a1 : av} {a3 : av} {st : List av} (q : Nat) (S : Sto) : run 287 j 1026 [a0, a1, vR 50 q, a3] st S = run 287 j 1027 [a0, a1, vR 50 q, a3] (vR 50 q :: st) S := st_ rfl
set_option maxRecDepth 100000 in
theorem s287_1027 {j : Nat} {a1 : av} {a2 : av} {a3 : av} {st : List av} (q : Nat) (S : Sto) : run 287 j 1027 [vR 102 q, a1, a2, a3] st S = run 287 j 1028 [vR 102 q, a1, a2, a3] (vR 102 q :: st) S := st_ rfl
set_option maxRecDepth 100000 in
theorem s287_1028 {j : Nat} {a0 : av} {a1 : av} {a2 : av} {st : List av} (x : Int32) (S : Sto) : run 287 j 1028 [a0, a1, a2, vI x] st S = run 287 j 1029 [a0, a1, a2, vI x] (vI x :: st) S := st_ rfl
set_option maxRecDepth 100000 in
theorem s287_1029 {j : Nat} {a0 : av} {a1 : av} {a2 : av} {a3 : av} {st : List av} (S : Sto) : run 287 j 1029 [a0, a1, a2, a3] st S = run 287 j 1030 [a0, a1, a2, a3] (vI 1 :: st) S := st_ rfl
set_option maxRecDepth 100000 in
theorem s287_1030 {j : Nat} {a0 : av} {a1 : av} {a2 : av} {a3 : av} {st : List av} (x y : Int32) (S : Sto) : run 287 j 1030 [a0, a1, a2, a3] (vI y :: vI x :: st) S = run 287 j 1031 [a0, a1, a2, a3] (vI (x + y) :: st) S := st_ rfl
set_option maxRecDepth 100000 in
theorem s287_1031 {j : Nat} {a0 : av} {a1 : av} {a2 : av} {a3 : av} {st : List av} (x : Int32) (q : Nat) (S : Sto) : run 287 j 1031 [a0, a1, a2, a3] (vI x :: vR 102 q :: st) S = if ib x (S.1 103 0 0).toNatClampNeg then run 287 j 1032 [a0, a1, a2, a3] (vI (S.1 102 q x.toNatClampNeg) :: st) S else none := st_itN rfl
set_option maxRecDepth 100000 in
theorem s287_1032 {j : Nat} {a1 : av} {a2 : av} {a3 : av} {st : List av} (q : Nat) (S : Sto) : run 287 j 1032 [vR 102 q, a1, a2, a3] st S = run 287 j 1033 [vR 102 q, a1, a2, a3] (vR 102 q :: st) S := st_ rfl
set_option maxRecDepth 100000 in
theorem s287_1033 {j : Nat} {a0 : av} {a1 : av} {a2 : av} {st : List av} (x : Int32) (S : Sto) : run 287 j 1033 [a0, a1, a2, vI x] st S = run 287 j 1034 [a0, a1, a2, vI x] (vI x :: st) S := st_ rfl
set_option maxRecDepth 100000 in
theorem s287_1034 {j : Nat} {a0 : av} {a1 : av} {a2 : av} {a3 : av} {st : List av} (S : Sto) : run 287 j 1034 [a0, a1, a2, a3] st S = run 287 j 1035 [a0, a1, a2, a3] (vI 2 :: st) S := st_ rfl
set_option maxRecDepth 100000 in
theorem s287_1035 {j : Nat} {a0 : av} {a1 : av} {a2 : av} {a3 : av} {st : List av} (x y : Int32) (S : Sto) : run 287 j 1035 [a0, a1, a2, a3] (vI y :: vI x :: st) S = run 287 j 1036 [a0, a1, a2, a3] (vI (x + y) :: st) S := st_ rfl
set_option maxRecDepth 100000 in
theorem s287_1036 {j : Nat} {a0 : av} {a1 : av} {a2 : av} {a3 : av} {st : List av} (x : Int32) (q : Nat) (S : Sto) : run 287 j 1036 [a0, a1, a2, a3] (vI x :: vR 102 q :: st) S = if ib x (S.1 103 0 0).toNatClampNeg then run 287 j 1037 [a0, a1, a2, a3] (vI (S.1 102 q x.toNatClampNeg) :: st) S else none := st_itN rfl
set_option maxRecDepth 100000 in
theorem s287_1037 {j : Nat} {a0 : av} {a1 : av} {a2 : av} {a3 : av} (x0 : Int32) (x1 : Int32) (x2 : Nat) (x3 : Int32) (S : Sto) : run 287 j 1037 [a0, a1, a2, a3] [vI x0, vI x1, vR 50 x2, vI x3] S = bV (call 226 0 [vR 50 x2, vI x1, vI x0] S) (fun v S' => run 287 j 1040 [a0, a1, a2, a3] (v :: [vI x3]) S') := st_cV rfl
set_option maxRecDepth 100000 in
theorem s287_1040 {j : Nat} {a0 : av} {a1 : av} {a2 : av} {a3 : av} {st : List av} (x y : Int32) (S : Sto) : run 287 j 1040 [a0, a1, a2, a3] (vI y :: vI x :: st) S = if x = y then run 287 j 1470 [a0, a1, a2, a3] st S else run 287 j 1043 [a0, a1, a2, a3] st S := st_ite rfl
set_option maxRecDepth 100000 in
theorem s287_1043 {j : Nat} {a0 : av} {a1 : av} {a2 : av} {a3 : av} {st : List av} (S : Sto) : run 287 j 1043 [a0, a1, a2, a3] st S = run 287 j 1044 [a0, a1, a2, a3] (vI 0 :: st) S := st_ rfl
set_option maxRecDepth 100000 in
theorem s287_1044 {j : Nat} {a0 : av} {a1 : av} {a2 : av} {a3 : av} (x : Int32) (S : Sto) : run 287 j 1044 [a0, a1, a2, a3] [vI x] S = if vp_nar .boolean x = x then some (some (vI x), S) else none := st_rb rfl
set_option maxRecDepth 100000 in
theorem s287_1045 {j : Nat} {a0 : av} {a2 : av} {a3 : av} {st : List av} (q : Nat) (S : Sto) : run 287 j 1045 [a0, vR 0 q, a2, a3] st S = run 287 j 1046 [a0, vR 0 q, a2, a3] (vR 0 q :: st) S := st_ rfl
set_option maxRecDepth 100000 in
theorem s287_1046 {j : Nat} {a1 : av} {a2 : av} {a3 : av} {st : List av} (q : Nat) (S : Sto) : run 287 j 1046 [vR 102 q, a1, a2, a3] st S = run 287 j 1047 [vR 102 q, a1, a2, a3] (vR 102 q :: st) S := st_ rfl
set_option maxRecDepth 100000 in
theorem s287_1047 {j : Nat} {a0 : av} {a1 : av} {a2 : av} {st : List av} (x : Int32) (S : Sto) : run 287 j 1047 [a0, a1, a2, vI x] st S = run 287 j 1048 [a0, a1, a2, vI x] (vI x :: st) S := st_ rfl
set_option maxRecDepth 100000 in
theorem s287_1048 {j : Nat} {a0 : av} {a1 : av} {a2 : av} {a3 : av} {st : List av} (S : Sto) : run 287 j 1048 [a0, a1, a2, a3] st S = run 287 j 1049 [a0, a1, a2, a3] (vI 1 :: st) S := st_ rfl
set_option maxRecDepth 100000 in
theorem s287_1049 {j : Nat} {a0 : av} {a1 : av} {a2 : av} {a3 : av} {st : List av} (x y : Int32) (S : Sto) : run 287 j 1049 [a0, a1, a2, a3] (vI y :: vI x :: st) S = run 287 j 1050 [a0, a1, a2, a3] (vI (x + y) :: st) S := st_ rfl
set_option maxRecDepth 100000 in
theorem s287_1050 {j : Nat} {a0 : av} {a1 : av} {a2 : av} {a3 : av} {st : List av} (x : Int32) (q : Nat) (S : Sto) : run 287 j 1050 [a0, a1, a2, a3] (vI x :: vR 102 q :: st) S = if ib x (S.1 103 0 0).toNatClampNeg then run 287 j 1051 [a0, a1, a2, a3] (vI (S.1 102 q x.toNatClampNeg) :: st) S else none := st_itN rfl
set_option maxRecDepth 100000 in
theorem s287_1051 {j : Nat} {a0 : av} {a1 : av} {a2 : av} {a3 : av} (x0 : Int32) (x1 : Nat) (S : Sto) : run 287 j 1051 [a0, a1, a2, a3] [vI x0, vR 0 x1] S = bV (call 121 0 [vR 0 x1, vI x0] S) (fun v S' => run 287 j 1054 [a0, a1, a2, a3] (v :: []) S') := st_cV rfl
set_option maxRecDepth 100000 in
theorem s287_1054 {j : Nat} {a0 : av} {a1 : av} {a3 : av} {st : List av} (q : Nat) (S : Sto) : run 287 j 1054 [a0, a1, vR 50 q, a3] st S = run 287 j 1055 [a0, a1, vR 50 q, a3] (vR 50 q :: st) S := st_ rfl
set_option maxRecDepth 100000 in
theorem s287_1055 {j : Nat} {a1 : av} {a2 : av} {a3 : av} {st : List av} (q : Nat) (S : Sto) : run 287 j 1055 [vR 102 q, a1, a2, a3] st S = run 287 j 1056 [vR 102 q, a1, a2, a3] (vR 102 q :: st) S := st_ rfl
set_option maxRecDepth 100000 in
theorem s287_1056 {j : Nat} {a0 : av} {a1 : av} {a2 : av} {st : List av} (x : Int32) (S : Sto) : run 287 j 1056 [a0, a1, a2, vI x] st S = run 287 j 1057 [a0, a1, a2, vI x] (vI x :: st) S := st_ rfl
set_option maxRecDepth 100000 in
theorem s287_1057 {j : Nat} {a0 : av} {a1 : av} {a2 : av} {a3 : av} {st : List av} (S : Sto) : run 287 j 1057 [a0, a1, a2, a3] st S = run 287 j 1058 [a0, a1, a2, a3] (vI 1 :: st) S := st_ rfl
set_option maxRecDepth 100000 in
theorem s287_1058 {j : Nat} {a0 : av} {a1 : av} {a2 : av} {a3 : av} {st : List av} (x y : Int32) (S : Sto) : run 287 j 1058 [a0, a1, a2, a3] (vI y :: vI x :: st) S = run 287 j 1059 [a0, a1, a2, a3] (vI (x + y) :: st) S := st_ rfl
set_option maxRecDepth 100000 in
theorem s287_1059 {j : Nat} {a0 : av} {a1 : av} {a2 : av} {a3 : av} {st : List av} (x : Int32) (q : Nat) (S : Sto) : run 287 j 1059 [a0, a1, a2, a3] (vI x :: vR 102 q :: st) S = if ib x (S.1 103 0 0).toNatClampNeg then run 287 j 1060 [a0, a1, a2, a3] (vI (S.1 102 q x.toNatClampNeg) :: st) S else none := st_itN rfl
set_option maxRecDepth 100000 in
theorem s287_1060 {j : Nat} {a0 : av} {a1 : av} {a2 : av} {a3 : av} (x0 : Int32) (x1 : Nat) (x2 : Int32) (S : Sto) : run 287 j 1060 [a0, a1, a2, a3] [vI x0, vR 50 x1, vI x2] S = bV (call 228 0 [vR 50 x1, vI x0] S) (fun v S' => run 287 j 1063 [a0, a1, a2, a3] (v :: [vI x2]) S') := st_cV rfl
set_option maxRecDepth 100000 in
theorem s287_1063 {j : Nat} {a0 : av} {a1 : av} {a2 : av} {a3 : av} {st : List av} (x y : Int32) (S : Sto) : run 287 j 1063 [a0, a1, a2, a3] (vI y :: vI x :: st) S = if x = y then run 287 j 1470 [a0, a1, a2, a3] st S else run 287 j 1066 [a0, a1, a2, a3] st S := st_ite rfl
set_option maxRecDepth 100000 in
theorem s287_1066 {j : Nat} {a0 : av} {a1 : av} {a2 : av} {a3 : av} {st : List av} (S : Sto) : run 287 j 1066 [a0, a1, a2, a3] st S = run 287 j 1067 [a0, a1, a2, a3] (vI 0 :: st) S := st_ rfl
set_option maxRecDepth 100000 in
theorem s287_1067 {j : Nat} {a0 : av} {a1 : av} {a2 : av} {a3 : av} (x : Int32) (S : Sto) : run 287 j 1067 [a0, a1, a2, a3] [vI x] S = if vp_nar .boolean x = x then some (some (vI x), S) else none := st_rb rfl
set_option maxRecDepth 100000 in
theorem s287_1068 {j : Nat} {a0 : av} {a2 : av} {a3 : av} {st : List av} (q : Nat) (S : Sto) : run 287 j 1068 [a0, vR 0 q, a2, a3] st S = run 287 j 1069 [a0, vR 0 q, a2, a3] (vR 0 q :: st) S := st_ rfl
set_option maxRecDepth 100000 in
theorem s287_1069 {j : Nat} {a1 : av} {a2 : av} {a3 : av} {st : List av} (q : Nat) (S : Sto) : run 287 j 1069 [vR 102 q, a1, a2, a3] st S = run 287 j 1070 [vR 102 q, a1, a2, a3] (vR 102 q :: st) S := st_ rfl
set_option maxRecDepth 100000 in
theorem s287_1070 {j : Nat} {a0 : av} {a1 : av} {a2 : av} {st : List av} (x : Int32) (S : Sto) : run 287 j 1070 [a0, a1, a2, vI x] st S = run 287 j 1071 [a0, a1, a2, vI x] (vI x :: st) S := st_ rfl
set_option maxRecDepth 100000 in
theorem s287_1071 {j : Nat} {a0 : av} {a1 : av} {a2 : av} {a3 : av} {st : List av} (S : Sto) : run 287 j 1071 [a0, a1, a2, a3] st S = run 287 j 1072 [a0, a1, a2, a3] (vI 1 :: st) S := st_ rfl
set_option maxRecDepth 100000 in
theorem s287_1072 {j : Nat} {a0 : av} {a1 : av} {a2 : av} {a3 : av} {st : List av} (x y : Int32) (S : Sto) : run 287 j 1072 [a0, a1, a2, a3] (vI y :: vI x :: st) S = run 287 j 1073 [a0, a1, a2, a3] (vI (x + y) :: st) S := st_ rfl
set_option maxRecDepth 100000 in
theorem s287_1073 {j : Nat} {a0 : av} {a1 : av} {a2 : av} {a3 : av} {st : List av} (x : Int32) (q : Nat) (S : Sto) : run 287 j 1073 [a0, a1, a2, a3] (vI x :: vR 102 q :: st) S = if ib x (S.1 103 0 0).toNatClampNeg then run 287 j 1074 [a0, a1, a2, a3] (vI (S.1 102 q x.toNatClampNeg) :: st) S else none := st_itN rfl
set_option maxRecDepth 100000 in
theorem s287_1074 {j : Nat} {a1 : av} {a2 : av} {a3 : av} {st : List av} (q : Nat) (S : Sto) : run 287 j 1074 [vR 102 q, a1, a2, a3] st S = run 287 j 1075 [vR 102 q, a1, a2, a3] (vR 102 q :: st) S := st_ rfl
set_option maxRecDepth 100000 in
theorem s287_1075 {j : Nat} {a0 : av} {a1 : av} {a2 : av} {st : List av} (x : Int32) (S : Sto) : run 287 j 1075 [a0, a1, a2, vI x] st S = run 287 j 1076 [a0, a1, a2, vI x] (vI x :: st) S := st_ rfl
set_option maxRecDepth 100000 in
theorem s287_1076 {j : Nat} {a0 : av} {a1 : av} {a2 : av} {a3 : av} {st : List av} (S : Sto) : run 287 j 1076 [a0, a1, a2, a3] st S = run 287 j 1077 [a0, a1, a2, a3] (vI 2 :: st) S := st_ rfl
set_option maxRecDepth 100000 in
theorem s287_1077 {j : Nat} {a0 : av} {a1 : av} {a2 : av} {a3 : av} {st : List av} (x y : Int32) (S : Sto) : run 287 j 1077 [a0, a1, a2, a3] (vI y :: vI x :: st) S = run 287 j 1078 [a0, a1, a2, a3] (vI (x + y) :: st) S := st_ rfl
set_option maxRecDepth 100000 in
theorem s287_1078 {j : Nat} {a0 : av} {a1 : av} {a2 : av} {a3 : av} {st : List av} (x : Int32) (q : Nat) (S : Sto) : run 287 j 1078 [a0, a1, a2, a3] (vI x :: vR 102 q :: st) S = if ib x (S.1 103 0 0).toNatClampNeg then run 287 j 1079 [a0, a1, a2, a3] (vI (S.1 102 q x.toNatClampNeg) :: st) S else none := st_itN rfl
set_option maxRecDepth 100000 in
theorem s287_1079 {j : Nat} {a1 : av} {a2 : av} {a3 : av} {st : List av} (q : Nat) (S : Sto) : run 287 j 1079 [vR 102 q, a1, a2, a3] st S = run 287 j 1080 [vR 102 q, a1, a2, a3] (vR 102 q :: st) S := st_ rfl
set_option maxRecDepth 100000 in
theorem s287_1080 {j : Nat} {a0 : av} {a1 : av} {a2 : av} {st : List av} (x : Int32) (S : Sto) : run 287 j 1080 [a0, a1, a2, vI x] st S = run 287 j 1081 [a0, a1, a2, vI x] (vI x :: st) S := st_ rfl
set_option maxRecDepth 100000 in
theorem s287_1081 {j : Nat} {a0 : av} {a1 : av} {a2 : av} {a3 : av} {st : List av} (S : Sto) : run 287 j 1081 [a0, a1, a2, a3] st S = run 287 j 1082 [a0, a1, a2, a3] (vI 3 :: st) S := st_ rfl
set_option maxRecDepth 100000 in
theorem s287_1082 {j : Nat} {a0 : av} {a1 : av} {a2 : av} {a3 : av} {st : List av} (x y : Int32) (S : Sto) : run 287 j 1082 [a0, a1, a2, a3] (vI y :: vI x :: st) S = run 287 j 1083 [a0, a1, a2, a3] (vI (x + y) :: st) S := st_ rfl
set_option maxRecDepth 100000 in
theorem s287_1083 {j : Nat} {a0 : av} {a1 : av} {a2 : av} {a3 : av} {st : List av} (x : Int32) (q : Nat) (S : Sto) : run 287 j 1083 [a0, a1, a2, a3] (vI x :: vR 102 q :: st) S = if ib x (S.1 103 0 0).toNatClampNeg then run 287 j 1084 [a0, a1, a2, a3] (vI (S.1 102 q x.toNatClampNeg) :: st) S else none := st_itN rfl
set_option maxRecDepth 100000 in
theorem s287_1084 {j : Nat} {a0 : av} {a1 : av} {a2 : av} {a3 : av} (x0 : Int32) (x1 : Int32) (x2 : Int32) (x3 : Nat) (S : Sto) : run 287 j 1084 [a0, a1, a2, a3] [vI x0, vI x1, vI x2, vR 0 x3] S = bV (call 122 0 [vR 0 x3, vI x2, vI x1, vI x0] S) (fun v S' => run 287 j 1087 [a0, a1, a2, a3] (v :: []) S') := st_cV rfl
set_option maxRecDepth 100000 in
theorem s287_1087 {j : Nat} {a0 : av} {a1 : av} {a3 : av} {st : List av} (q : Nat) (S : Sto) : run 287 j 1087 [a0, a1, vR 50 q, a3] st S = run 287 j 1088 [a0, a1, vR 50 q, a3] (vR 50 q :: st) S := st_ rfl
set_option maxRecDepth 100000 in
theorem s287_1088 {j : Nat} {a1 : av} {a2 : av} {a3 : av} {st : List av} (q : Nat) (S : Sto) : run 287 j 1088 [vR 102 q, a1, a2, a3] st S = run 287 j 1089 [vR 102 q, a1, a2, a3] (vR 102 q :: st) S := st_ rfl
set_option maxRecDepth 100000 in
theorem s287_1089 {j : Nat} {a0 : av} {a1 : av} {a2 : av} {st : List av} (x : Int32) (S : Sto) : run 287 j 1089 [a0, a1, a2, vI x] st S = run 287 j 1090 [a0, a1, a2, vI x] (vI x :: st) S := st_ rfl
set_option maxRecDepth 100000 in
theorem s287_1090 {j : Nat} {a0 : av} {a1 : av} {a2 : av} {a3 : av} {st : List av} (S : Sto) : run 287 j 1090 [a0, a1, a2, a3] st S = run 287 j 1091 [a0, a1, a2, a3] (vI 1 :: st) S := st_ rfl
set_option maxRecDepth 100000 in
theorem s287_1091 {j : Nat} {a0 : av} {a1 : av} {a2 : av} {a3 : av} {st : List av} (x y : Int32) (S : Sto) : run 287 j 1091 [a0, a1, a2, a3] (vI y :: vI x :: st) S = run 287 j 1092 [a0, a1, a2, a3] (vI (x + y) :: st) S := st_ rfl
set_option maxRecDepth 100000 in
theorem s287_1092 {j : Nat} {a0 : av} {a1 : av} {a2 : av} {a3 : av} {st : List av} (x : Int32) (q : Nat) (S : Sto) : run 287 j 1092 [a0, a1, a2, a3] (vI x :: vR 102 q :: st) S = if ib x (S.1 103 0 0).toNatClampNeg then run 287 j 1093 [a0, a1, a2, a3] (vI (S.1 102 q x.toNatClampNeg) :: st) S else none := st_itN rfl
set_option maxRecDepth 100000 in
theorem s287_1093 {j : Nat} {a1 : av} {a2 : av} {a3 : av} {st : List av} (q : Nat) (S : Sto) : run 287 j 1093 [vR 102 q, a1, a2, a3] st S = run 287 j 1094 [vR 102 q, a1, a2, a3] (vR 102 q :: st) S := st_ rfl
set_option maxRecDepth 100000 in
theorem s287_1094 {j : Nat} {a0 : av} {a1 : av} {a2 : av} {st : List av} (x : Int32) (S : Sto) : run 287 j 1094 [a0, a1, a2, vI x] st S = run 287 j 1095 [a0, a1, a2, vI x] (vI x :: st) S := st_ rfl
set_option maxRecDepth 100000 in
theorem s287_1095 {j : Nat} {a0 : av} {a1 : av} {a2 : av} {a3 : av} {st : List av} (S : Sto) : run 287 j 1095 [a0, a1, a2, a3] st S = run 287 j 1096 [a0, a1, a2, a3] (vI 2 :: st) S := st_ rfl
set_option maxRecDepth 100000 in
theorem s287_1096 {j : Nat} {a0 : av} {a1 : av} {a2 : av} {a3 : av} {st : List av} (x y : Int32) (S : Sto) : run 287 j 1096 [a0, a1, a2, a3] (vI y :: vI x :: st) S = run 287 j 1097 [a0, a1, a2, a3] (vI (x + y) :: st) S := st_ rfl
set_option maxRecDepth 100000 in
theorem s287_1097 {j : Nat} {a0 : av} {a1 : av} {a2 : av} {a3 : av} {st : List av} (x : Int32) (q : Nat) (S : Sto) : run 287 j 1097 [a0, a1, a2, a3] (vI x :: vR 102 q :: st) S = if ib x (S.1 103 0 0).toNatClampNeg then run 287 j 1098 [a0, a1, a2, a3] (vI (S.1 102 q x.toNatClampNeg) :: st) S else none := st_itN rfl
set_option maxRecDepth 100000 in
theorem s287_1098 {j : Nat} {a1 : av} {a2 : av} {a3 : av} {st : List av} (q : Nat) (S : Sto) : run 287 j 1098 [vR 102 q, a1, a2, a3] st S = run 287 j 1099 [vR 102 q, a1, a2, a3] (vR 102 q :: st) S := st_ rfl
set_option maxRecDepth 100000 in
theorem s287_1099 {j : Nat} {a0 : av} {a1 : av} {a2 : av} {st : List av} (x : Int32) (S : Sto) : run 287 j 1099 [a0, a1, a2, vI x] st S = run 287 j 1100 [a0, a1, a2, vI x] (vI x :: st) S := st_ rfl
set_option maxRecDepth 100000 in
theorem s287_1100 {j : Nat} {a0 : av} {a1 : av} {a2 : av} {a3 : av} {st : List av} (S : Sto) : run 287 j 1100 [a0, a1, a2, a3] st S = run 287 j 1101 [a0, a1, a2, a3] (vI 3 :: st) S := st_ rfl
set_option maxRecDepth 100000 in
theorem s287_1101 {j : Nat} {a0 : av} {a1 : av} {a2 : av} {a3 : av} {st : List av} (x y : Int32) (S : Sto) : run 287 j 1101 [a0, a1, a2, a3] (vI y :: vI x :: st) S = run 287 j 1102 [a0, a1, a2, a3] (vI (x + y) :: st) S := st_ rfl
set_option maxRecDepth 100000 in
theorem s287_1102 {j : Nat} {a0 : av} {a1 : av} {a2 : av} {a3 : av} {st : List av} (x : Int32) (q : Nat) (S : Sto) : run 287 j 1102 [a0, a1, a2, a3] (vI x :: vR 102 q :: st) S = if ib x (S.1 103 0 0).toNatClampNeg then run 287 j 1103 [a0, a1, a2, a3] (vI (S.1 102 q x.toNatClampNeg) :: st) S else none := st_itN rfl
set_option maxRecDepth 100000 in
theorem s287_1103 {j : Nat} {a0 : av} {a1 : av} {a2 : av} {a3 : av} (x0 : Int32) (x1 : Int32) (x2 : Int32) (x3 : Nat) (x4 : Int32) (S : Sto) : run 287 j 1103 [a0, a1, a2, a3] [vI x0, vI x1, vI x2, vR 50 x3, vI x4] S = bV (call 231 0 [vR 50 x3, vI x2, vI x1, vI x0] S) (fun v S' => run 287 j 1106 [a0, a1, a2, a3] (v :: [vI x4]) S') := st_cV rfl
set_option maxRecDepth 100000 in
theorem s287_1106 {j : Nat} {a0 : av} {a1 : av} {a2 : av} {a3 : av} {st : List av} (x y : Int32) (S : Sto) : run 287 j 1106 [a0, a1, a2, a3] (vI y :: vI x :: st) S = if x = y then run 287 j 1470 [a0, a1, a2, a3] st S else run 287 j 1109 [a0, a1, a2, a3] st S := st_ite rfl
set_option maxRecDepth 100000 in
theorem s287_1109 {j : Nat} {a0 : av} {a1 : av} {a2 : av} {a3 : av} {st : List av} (S : Sto) : run 287 j 1109 [a0, a1, a2, a3] st S = run 287 j 1110 [a0, a1, a2, a3] (vI 0 :: st) S := st_ rfl
set_option maxRecDepth 100000 in
theorem s287_1110 {j : Nat} {a0 : av} {a1 : av} {a2 : av} {a3 : av} (x : Int32) (S : Sto) : run 287 j 1110 [a0, a1, a2, a3] [vI x] S = if vp_nar .boolean x = x then some (some (vI x), S) else none := st_rb rfl
set_option maxRecDepth 100000 in
theorem s287_1111 {j : Nat} {a0 : av} {a2 : av} {a3 : av} {st : List av} (q : Nat) (S : Sto) : run 287 j 1111 [a0, vR 0 q, a2, a3] st S = run 287 j 1112 [a0, vR 0 q, a2, a3] (vR 0 q :: st) S := st_ rfl
set_option maxRecDepth 100000 in
theorem s287_1112 {j : Nat} {a0 : av} {a1 : av} {a2 : av} {a3 : av} (x0 : Nat) (S : Sto) : run 287 j 1112 [a0, a1, a2, a3] [vR 0 x0] S = bV (call 123 0 [vR 0 x0] S) (fun v S' => run 287 j 1115 [a0, a1, a2, a3] (v :: []) S') := st_cV rfl
set_option maxRecDepth 100000 in
theorem s287_1115 {j : Nat} {a0 : av} {a1 : av} {a3 : av} {st : List av} (q : Nat) (S : Sto) : run 287 j 1115 [a0, a1, vR 50 q, a3] st S = run 287 j 1116 [a0, a1, vR 50 q, a3] (vR 50 q :: st) S := st_ rfl
set_option maxRecDepth 100000 in
theorem s287_1116 {j : Nat} {a0 : av} {a1 : av} {a2 : av} {a3 : av} (x0 : Nat) (x1 : Int32) (S : Sto) : run 287 j 1116 [a0, a1, a2, a3] [vR 50 x0, vI x1] S = bV (call 234 0 [vR 50 x0] S) (fun v S' => run 287 j 1119 [a0, a1, a2, a3] (v :: [vI x1]) S') := st_cV rfl
set_option maxRecDepth 100000 in
theorem s287_1119 {j : Nat} {a0 : av} {a1 : av} {a2 : av} {a3 : av} {st : List av} (x y : Int32) (S : Sto) : run 287 j 1119 [a0, a1, a2, a3] (vI y :: vI x :: st) S = if x = y then run 287 j 1470 [a0, a1, a2, a3] st S else run 287 j 1122 [a0, a1, a2, a3] st S := st_ite rfl
set_option maxRecDepth 100000 in
theorem s287_1122 {j : Nat} {a0 : av} {a1 : av} {a2 : av} {a3 : av} {st : List av} (S : Sto) : run 287 j 1122 [a0, a1, a2, a3] st S = run 287 j 1123 [a0, a1, a2, a3] (vI 0 :: st) S := st_ rfl
set_option maxRecDepth 100000 in
theorem s287_1123 {j : Nat} {a0 : av} {a1 : av} {a2 : av} {a3 : av} (x : Int32) (S : Sto) : run 287 j 1123 [a0, a1, a2, a3] [vI x] S = if vp_nar .boolean x = x then some (some (vI x), S) else none := st_rb rfl
set_option maxRecDepth 100000 in
theorem s287_1124 {j : Nat} {a0 : av} {a2 : av} {a3 : av} {st : List av} (q : Nat) (S : Sto) : run 287 j 1124 [a0, vR 0 q, a2, a3] st S = run 287 j 1125 [a0, vR 0 q, a2, a3] (vR 0 q :: st) S := st_ rfl
set_option maxRecDepth 100000 in
theorem s287_1125 {j : Nat} {a0 : av} {a1 : av} {a2 : av} {a3 : av} (x0 : Nat) (S : Sto) : run 287 j 1125 [a0, a1, a2, a3] [vR 0 x0] S = bV (call 124 0 [vR 0 x0] S) (fun v S' => run 287 j 1128 [a0, a1, a2, a3] (v :: []) S') := st_cV rfl
set_option maxRecDepth 100000 in
theorem s287_1128 {j : Nat} {a0 : av} {a1 : av} {a3 : av} {st : List av} (q : Nat) (S : Sto) : run 287 j 1128 [a0, a1, vR 50 q, a3] st S = run 287 j 1129 [a0, a1, vR 50 q, a3] (vR 50 q :: st) S := st_ rfl
set_option maxRecDepth 100000 in
theorem s287_1129 {j : Nat} {a0 : av} {a1 : av} {a2 : av} {a3 : av} (x0 : Nat) (x1 : Int32) (S : Sto) : run 287 j 1129 [a0, a1, a2, a3] [vR 50 x0, vI x1] S = bV (call 236 0 [vR 50 x0] S) (fun v S' => run 287 j 1132 [a0, a1, a2, a3] (v :: [vI x1]) S') := st_cV rfl
set_option maxRecDepth 100000 in
theorem s287_1132 {j : Nat} {a0 : av} {a1 : av} {a2 : av} {a3 : av} {st : List av} (x y : Int32) (S : Sto) : run 287 j 1132 [a0, a1, a2, a3] (vI y :: vI x :: st) S = if x = y then run 287 j 1470 [a0, a1, a2, a3] st S else run 287 j 1135 [a0, a1, a2, a3] st S := st_ite rfl
set_option maxRecDepth 100000 in
theorem s287_1135 {j : Nat} {a0 : av} {a1 : av} {a2 : av} {a3 : av} {st : List av} (S : Sto) : run 287 j 1135 [a0, a1, a2, a3] st S = run 287 j 1136 [a0, a1, a2, a3] (vI 0 :: st) S := st_ rfl
set_option maxRecDepth 100000 in
theorem s287_1136 {j : Nat} {a0 : av} {a1 : av} {a2 : av} {a3 : av} (x : Int32) (S : Sto) : run 287 j 1136 [a0, a1, a2, a3] [vI x] S = if vp_nar .boolean x = x then some (some (vI x), S) else none := st_rb rfl
set_option maxRecDepth 100000 in
theorem s287_1137 {j : Nat} {a0 : av} {a2 : av} {a3 : av} {st : List av} (q : Nat) (S : Sto) : run 287 j 1137 [a0, vR 0 q, a2, a3] st S = run 287 j 1138 [a0, vR 0 q, a2, a3] (vR 0 q :: st) S := st_ rfl
set_option maxRecDepth 100000 in
theorem s287_1138 {j : Nat} {a1 : av} {a2 : av} {a3 : av} {st : List av} (q : Nat) (S : Sto) : run 287 j 1138 [vR 102 q, a1, a2, a3] st S = run 287 j 1139 [vR 102 q, a1, a2, a3] (vR 102 q :: st) S := st_ rfl
set_option maxRecDepth 100000 in
theorem s287_1139 {j : Nat} {a0 : av} {a1 : av} {a2 : av} {st : List av} (x : Int32) (S : Sto) : run 287 j 1139 [a0, a1, a2, vI x] st S = run 287 j 1140 [a0, a1, a2, vI x] (vI x :: st) S := st_ rfl
set_option maxRecDepth 100000 in
theorem s287_1140 {j : Nat} {a0 : av} {a1 : av} {a2 : av} {a3 : av} {st : List av} (S : Sto) : run 287 j 1140 [a0, a1, a2, a3] st S = run 287 j 1141 [a0, a1, a2, a3] (vI 1 :: st) S := st_ rfl
set_option maxRecDepth 100000 in
theorem s287_1141 {j : Nat} {a0 : av} {a1 : av} {a2 : av} {a3 : av} {st : List av} (x y : Int32) (S : Sto) : run 287 j 1141 [a0, a1, a2, a3] (vI y :: vI x :: st) S = run 287 j 1142 [a0, a1, a2, a3] (vI (x + y) :: st) S := st_ rfl
set_option maxRecDepth 100000 in
theorem s287_1142 {j : Nat} {a0 : av} {a1 : av} {a2 : av} {a3 : av} {st : List av} (x : Int32) (q : Nat) (S : Sto) : run 287 j 1142 [a0, a1, a2, a3] (vI x :: vR 102 q :: st) S = if ib x (S.1 103 0 0).toNatClampNeg then run 287 j 1143 [a0, a1, a2, a3] (vI (S.1 102 q x.toNatClampNeg) :: st) S else none := st_itN rfl
set_option maxRecDepth 100000 in
theorem s287_1143 {j : Nat} {a1 : av} {a2 : av} {a3 : av} {st : List av} (q : Nat) (S : Sto) : run 287 j 1143 [vR 102 q, a1, a2, a3] st S = run 287 j 1144 [vR 102 q, a1, a2, a3] (vR 102 q :: st) S := st_ rfl
set_option maxRecDepth 100000 in
theorem s287_1144 {j : Nat} {a0 : av} {a1 : av} {a2 : av} {st : List av} (x : Int32) (S : Sto) : run 287 j 1144 [a0, a1, a2, vI x] st S = run 287 j 1145 [a0, a1, a2, vI x] (vI x :: st) S := st_ rfl
set_option maxRecDepth 100000 in
theorem s287_1145 {j : Nat} {a0 : av} {a1 : av} {a2 : av} {a3 : av} {st : List av} (S : Sto) : run 287 j 1145 [a0, a1, a2, a3] st S = run 287 j 1146 [a0, a1, a2, a3] (vI 2 :: st) S := st_ rfl
set_option maxRecDepth 100000 in
theorem s287_1146 {j : Nat} {a0 : av} {a1 : av} {a2 : av} {a3 : av} {st : List av} (x y : Int32) (S : Sto) : run 287 j 1146 [a0, a1, a2, a3] (vI y :: vI x :: st) S = run 287 j 1147 [a0, a1, a2, a3] (vI (x + y) :: st) S := st_ rfl
set_option maxRecDepth 100000 in
theorem s287_1147 {j : Nat} {a0 : av} {a1 : av} {a2 : av} {a3 : av} {st : List av} (x : Int32) (q : Nat) (S : Sto) : run 287 j 1147 [a0, a1, a2, a3] (vI x :: vR 102 q :: st) S = if ib x (S.1 103 0 0).toNatClampNeg then run 287 j 1148 [a0, a1, a2, a3] (vI (S.1 102 q x.toNatClampNeg) :: st) S else none := st_itN rfl
set_option maxRecDepth 100000 in
theorem s287_1148 {j : Nat} {a1 : av} {a2 : av} {a3 : av} {st : List av} (q : Nat) (S : Sto) : run 287 j 1148 [vR 102 q, a1, a2, a3] st S = run 287 j 1149 [vR 102 q, a1, a2, a3] (vR 102 q :: st) S := st_ rfl
set_option maxRecDepth 100000 in
theorem s287_1149 {j : Nat} {a0 : av} {a1 : av} {a2 : av} {st : List av} (x : Int32) (S : Sto) : run 287 j 1149 [a0, a1, a2, vI x] st S = run 287 j 1150 [a0, a1, a2, vI x] (vI x :: st) S := st_ rfl
set_option maxRecDepth 100000 in
theorem s287_1150 {j : Nat} {a0 : av} {a1 : av} {a2 : av} {a3 : av} {st : List av} (S : Sto) : run 287 j 1150 [a0, a1, a2, a3] st S = run 287 j 1151 [a0, a1, a2, a3] (vI 3 :: st) S := st_ rfl
set_option maxRecDepth 100000 in
theorem s287_1151 {j : Nat} {a0 : av} {a1 : av} {a2 : av} {a3 : av} {st : List av} (x y : Int32) (S : Sto) : run 287 j 1151 [a0, a1, a2, a3] (vI y :: vI x :: st) S = run 287 j 1152 [a0, a1, a2, a3] (vI (x + y) :: st) S := st_ rfl
set_option maxRecDepth 100000 in
theorem s287_1152 {j : Nat} {a0 : av} {a1 : av} {a2 : av} {a3 : av} {st : List av} (x : Int32) (q : Nat) (S : Sto) : run 287 j 1152 [a0, a1, a2, a3] (vI x :: vR 102 q :: st) S = if ib x (S.1 103 0 0).toNatClampNeg then run 287 j 1153 [a0, a1, a2, a3] (vI (S.1 102 q x.toNatClampNeg) :: st) S else none := st_itN rfl
set_option maxRecDepth 100000 in
theorem s287_1153 {j : Nat} {a0 : av} {a1 : av} {a2 : av} {a3 : av} (x0 : Int32) (x1 : Int32) (x2 : Int32) (x3 : Nat) (S : Sto) : run 287 j 1153 [a0, a1, a2, a3] [vI x0, vI x1, vI x2, vR 0 x3] S = bV (call 125 0 [vR 0 x3, vI x2, vI x1, vI x0] S) (fun v S' => run 287 j 1156 [a0, a1, a2, a3] (v :: []) S') := st_cV rfl
set_option maxRecDepth 100000 in
theorem s287_1156 {j : Nat} {a0 : av} {a1 : av} {a3 : av} {st : List av} (q : Nat) (S : Sto) : run 287 j 1156 [a0, a1, vR 50 q, a3] st S = run 287 j 1157 [a0, a1, vR 50 q, a3] (vR 50 q :: st) S := st_ rfl
set_option maxRecDepth 100000 in
theorem s287_1157 {j : Nat} {a1 : av} {a2 : av} {a3 : av} {st : List av} (q : Nat) (S : Sto) : run 287 j 1157 [vR 102 q, a1, a2, a3] st S = run 287 j 1158 [vR 102 q, a1, a2, a3] (vR 102 q :: st) S := st_ rfl
set_option maxRecDepth 100000 in
theorem s287_1158 {j : Nat} {a0 : av} {a1 : av} {a2 : av} {st : List av} (x : Int32) (S : Sto) : run 287 j 1158 [a0, a1, a2, vI x] st S = run 287 j 1159 [a0, a1, a2, vI x] (vI x :: st) S := st_ rfl
set_option maxRecDepth 100000 in
theorem s287_1159 {j : Nat} {a0 : av} {a1 : av} {a2 : av} {a3 : av} {st : List av} (S : Sto) : run 287 j 1159 [a0, a1, a2, a3] st S = run 287 j 1160 [a0, a1, a2, a3] (vI 1 :: st) S := st_ rfl
set_option maxRecDepth 100000 in
theorem s287_1160 {j : Nat} {a0 : av} {a1 : av} {a2 : av} {a3 : av} {st : List av} (x y : Int32) (S : Sto) : run 287 j 1160 [a0, a1, a2, a3] (vI y :: vI x :: st) S = run 287 j 1161 [a0, a1, a2, a3] (vI (x + y) :: st) S := st_ rfl
set_option maxRecDepth 100000 in
theorem s287_1161 {j : Nat} {a0 : av} {a1 : av} {a2 : av} {a3 : av} {st : List av} (x : Int32) (q : Nat) (S : Sto) : run 287 j 1161 [a0, a1, a2, a3] (vI x :: vR 102 q :: st) S = if ib x (S.1 103 0 0).toNatClampNeg then run 287 j 1162 [a0, a1, a2, a3] (vI (S.1 102 q x.toNatClampNeg) :: st) S else none := st_itN rfl
set_option maxRecDepth 100000 in
theorem s287_1162 {j : Nat} {a1 : av} {a2 : av} {a3 : av} {st : List av} (q : Nat) (S : Sto) : run 287 j 1162 [vR 102 q, a1, a2, a3] st S = run 287 j 1163 [vR 102 q, a1, a2, a3] (vR 102 q :: st) S := st_ rfl
set_option maxRecDepth 100000 in
theorem s287_1163 {j : Nat} {a0 : av} {a1 : av} {a2 : av} {st : List av} (x : Int32) (S : Sto) : run 287 j 1163 [a0, a1, a2, vI x] st S = run 287 j 1164 [a0, a1, a2, vI x] (vI x :: st) S := st_ rfl
set_option maxRecDepth 100000 in
theorem s287_1164 {j : Nat} {a0 : av} {a1 : av} {a2 : av} {a3 : av} {st : List av} (S : Sto) : run 287 j 1164 [a0, a1, a2, a3] st S = run 287 j 1165 [a0, a1, a2, a3] (vI 2 :: st) S := st_ rfl
set_option maxRecDepth 100000 in
theorem s287_1165 {j : Nat} {a0 : av} {a1 : av} {a2 : av} {a3 : av} {st : List av} (x y : Int32) (S : Sto) : run 287 j 1165 [a0, a1, a2, a3] (vI y :: vI x :: st) S = run 287 j 1166 [a0, a1, a2, a3] (vI (x + y) :: st) S := st_ rfl
set_option maxRecDepth 100000 in
theorem s287_1166 {j : Nat} {a0 : av} {a1 : av} {a2 : av} {a3 : av} {st : List av} (x : Int32) (q : Nat) (S : Sto) : run 287 j 1166 [a0, a1, a2, a3] (vI x :: vR 102 q :: st) S = if ib x (S.1 103 0 0).toNatClampNeg then run 287 j 1167 [a0, a1, a2, a3] (vI (S.1 102 q x.toNatClampNeg) :: st) S else none := st_itN rfl
set_option maxRecDepth 100000 in
theorem s287_1167 {j : Nat} {a1 : av} {a2 : av} {a3 : av} {st : List av} (q : Nat) (S : Sto) : run 287 j 1167 [vR 102 q, a1, a2, a3] st S = run 287 j 1168 [vR 102 q, a1, a2, a3] (vR 102 q :: st) S := st_ rfl
set_option maxRecDepth 100000 in
theorem s287_1168 {j : Nat} {a0 : av} {a1 : av} {a2 : av} {st : List av} (x : Int32) (S : Sto) : run 287 j 1168 [a0, a1, a2, vI x] st S = run 287 j 1169 [a0, a1, a2, vI x] (vI x :: st) S := st_ rfl
set_option maxRecDepth 100000 in
theorem s287_1169 {j : Nat} {a0 : av} {a1 : av} {a2 : av} {a3 : av} {st : List av} (S : Sto) : run 287 j 1169 [a0, a1, a2, a3] st S = run 287 j 1170 [a0, a1, a2, a3] (vI 3 :: st) S := st_ rfl
set_option maxRecDepth 100000 in
theorem s287_1170 {j : Nat} {a0 : av} {a1 : av} {a2 : av} {a3 : av} {st : List av} (x y : Int32) (S : Sto) : run 287 j 1170 [a0, a1, a2, a3] (vI y :: vI x :: st) S = run 287 j 1171 [a0, a1, a2, a3] (vI (x + y) :: st) S := st_ rfl
set_option maxRecDepth 100000 in
theorem s287_1171 {j : Nat} {a0 : av} {a1 : av} {a2 : av} {a3 : av} {st : List av} (x : Int32) (q : Nat) (S : Sto) : run 287 j 1171 [a0, a1, a2, a3] (vI x :: vR 102 q :: st) S = if ib x (S.1 103 0 0).toNatClampNeg then run 287 j 1172 [a0, a1, a2, a3] (vI (S.1 102 q x.toNatClampNeg) :: st) S else none := st_itN rfl
set_option maxRecDepth 100000 in
theorem s287_1172 {j : Nat} {a0 : av} {a1 : av} {a2 : av} {a3 : av} (x0 : Int32) (x1 : Int32) (x2 : Int32) (x3 : Nat) (x4 : Int32) (S : Sto) : run 287 j 1172 [a0, a1, a2, a3] [vI x0, vI x1, vI x2, vR 50 x3, vI x4] S = bV (call 237 0 [vR 50 x3, vI x2, vI x1, vI x0] S) (fun v S' => run 287 j 1175 [a0, a1, a2, a3] (v :: [vI x4]) S') := st_cV rfl
set_option maxRecDepth 100000 in
theorem s287_1175 {j : Nat} {a0 : av} {a1 : av} {a2 : av} {a3 : av} {st : List av} (x y : Int32) (S : Sto) : run 287 j 1175 [a0, a1, a2, a3] (vI y :: vI x :: st) S = if x = y then run 287 j 1470 [a0, a1, a2, a3] st S else run 287 j 1178 [a0, a1, a2, a3] st S := st_ite rfl
set_option maxRecDepth 100000 in
theorem s287_1178 {j : Nat} {a0 : av} {a1 : av} {a2 : av} {a3 : av} {st : List av} (S : Sto) : run 287 j 1178 [a0, a1, a2, a3] st S = run 287 j 1179 [a0, a1, a2, a3] (vI 0 :: st) S := st_ rfl
set_option maxRecDepth 100000 in
theorem s287_1179 {j : Nat} {a0 : av} {a1 : av} {a2 : av} {a3 : av} (x : Int32) (S : Sto) : run 287 j 1179 [a0, a1, a2, a3] [vI x] S = if vp_nar .boolean x = x then some (some (vI x), S) else none := st_rb rfl
set_option maxRecDepth 100000 in
theorem s287_1180 {j : Nat} {a0 : av} {a2 : av} {a3 : av} {st : List av} (q : Nat) (S : Sto) : run 287 j 1180 [a0, vR 0 q, a2, a3] st S = run 287 j 1181 [a0, vR 0 q, a2, a3] (vR 0 q :: st) S := st_ rfl
set_option maxRecDepth 100000 in
theorem s287_1181 {j : Nat} {a1 : av} {a2 : av} {a3 : av} {st : List av} (q : Nat) (S : Sto) : run 287 j 1181 [vR 102 q, a1, a2, a3] st S = run 287 j 1182 [vR 102 q, a1, a2, a3] (vR 102 q :: st) S := st_ rfl
set_option maxRecDepth 100000 in
theorem s287_1182 {j : Nat} {a0 : av} {a1 : av} {a2 : av} {st : List av} (x : Int32) (S : Sto) : run 287 j 1182 [a0, a1, a2, vI x] st S = run 287 j 1183 [a0, a1, a2, vI x] (vI x :: st) S := st_ rfl
set_option maxRecDepth 100000 in
theorem s287_1183 {j : Nat} {a0 : av} {a1 : av} {a2 : av} {a3 : av} {st : List av} (S : Sto) : run 287 j 1183 [a0, a1, a2, a3] st S = run 287 j 1184 [a0, a1, a2, a3] (vI 1 :: st) S := st_ rfl
set_option maxRecDepth 100000 in
theorem s287_1184 {j : Nat} {a0 : av} {a1 : av} {a2 : av} {a3 : av} {st : List av} (x y : Int32) (S : Sto) : run 287 j 1184 [a0, a1, a2, a3] (vI y :: vI x :: st) S = run 287 j 1185 [a0, a1, a2, a3] (vI (x + y) :: st) S := st_ rfl
set_option maxRecDepth 100000 in
theorem s287_1185 {j : Nat} {a0 : av} {a1 : av} {a2 : av} {a3 : av} {st : List av} (x : Int32) (q : Nat) (S : Sto) : run 287 j 1185 [a0, a1, a2, a3] (vI x :: vR 102 q :: st) S = if ib x (S.1 103 0 0).toNatClampNeg then run 287 j 1186 [a0, a1, a2, a3] (vI (S.1 102 q x.toNatClampNeg) :: st) S else none := st_itN rfl
set_option maxRecDepth 100000 in
theorem s287_1186 {j : Nat} {a1 : av} {a2 : av} {a3 : av} {st : List av} (q : Nat) (S : Sto) : run 287 j 1186 [vR 102 q, a1, a2, a3] st S = run 287 j 1187 [vR 102 q, a1, a2, a3] (vR 102 q :: st) S := st_ rfl
set_option maxRecDepth 100000 in
theorem s287_1187 {j : Nat} {a0 : av} {a1 : av} {a2 : av} {st : List av} (x : Int32) (S : Sto) : run 287 j 1187 [a0, a1, a2, vI x] st S = run 287 j 1188 [a0, a1, a2, vI x] (vI x :: st) S := st_ rfl
set_option maxRecDepth 100000 in
theorem s287_1188 {j : Nat} {a0 : av} {a1 : av} {a2 : av} {a3 : av} {st : List av} (S : Sto) : run 287 j 1188 [a0, a1, a2, a3] st S = run 287 j 1189 [a0, a1, a2, a3] (vI 2 :: st) S := st_ rfl
set_option maxRecDepth 100000 in
theorem s287_1189 {j : Nat} {a0 : av} {a1 : av} {a2 : av} {a3 : av} {st : List av} (x y : Int32) (S : Sto) : run 287 j 1189 [a0, a1, a2, a3] (vI y :: vI x :: st) S = run 287 j 1190 [a0, a1, a2, a3] (vI (x + y) :: st) S := st_ rfl
set_option maxRecDepth 100000 in
theorem s287_1190 {j : Nat} {a0 : av} {a1 : av} {a2 : av} {a3 : av} {st : List av} (x : Int32) (q : Nat) (S : Sto) : run 287 j 1190 [a0, a1, a2, a3] (vI x :: vR 102 q :: st) S = if ib x (S.1 103 0 0).toNatClampNeg then run 287 j 1191 [a0, a1, a2, a3] (vI (S.1 102 q x.toNatClampNeg) :: st) S else none := st_itN rfl
set_option maxRecDepth 100000 in
theorem s287_1191 {j : Nat} {a1 : av} {a2 : av} {a3 : av} {st : List av} (q : Nat) (S : Sto) : run 287 j 1191 [vR 102 q, a1, a2, a3] st S = run 287 j 1192 [vR 102 q, a1, a2, a3] (vR 102 q :: st) S := st_ rfl
set_option maxRecDepth 100000 in
theorem s287_1192 {j : Nat} {a0 : av} {a1 : av} {a2 : av} {st : List av} (x : Int32) (S : Sto) : run 287 j 1192 [a0, a1, a2, vI x] st S = run 287 j 1193 [a0, a1, a2, vI x] (vI x :: st) S := st_ rfl
set_option maxRecDepth 100000 in
theorem s287_1193 {j : Nat} {a0 : av} {a1 : av} {a2 : av} {a3 : av} {st : List av} (S : Sto) : run 287 j 1193 [a0, a1, a2, a3] st S = run 287 j 1194 [a0, a1, a2, a3] (vI 3 :: st) S := st_ rfl
set_option maxRecDepth 100000 in
theorem s287_1194 {j : Nat} {a0 : av} {a1 : av} {a2 : av} {a3 : av} {st : List av} (x y : Int32) (S : Sto) : run 287 j 1194 [a0, a1, a2, a3] (vI y :: vI x :: st) S = run 287 j 1195 [a0, a1, a2, a3] (vI (x + y) :: st) S := st_ rfl
set_option maxRecDepth 100000 in
theorem s287_1195 {j : Nat} {a0 : av} {a1 : av} {a2 : av} {a3 : av} {st : List av} (x : Int32) (q : Nat) (S : Sto) : run 287 j 1195 [a0, a1, a2, a3] (vI x :: vR 102 q :: st) S = if ib x (S.1 103 0 0).toNatClampNeg then run 287 j 1196 [a0, a1, a2, a3] (vI (S.1 102 q x.toNatClampNeg) :: st) S else none := st_itN rfl
set_option maxRecDepth 100000 in
theorem s287_1196 {j : Nat} {a1 : av} {a2 : av} {a3 : av} {st : List av} (q : Nat) (S : Sto) : run 287 j 1196 [vR 102 q, a1, a2, a3] st S = run 287 j 1197 [vR 102 q, a1, a2, a3] (vR 102 q :: st) S := st_ rfl
set_option maxRecDepth 100000 in
theorem s287_1197 {j : Nat} {a0 : av} {a1 : av} {a2 : av} {st : List av} (x : Int32) (S : Sto) : run 287 j 1197 [a0, a1, a2, vI x] st S = run 287 j 1198 [a0, a1, a2, vI x] (vI x :: st) S := st_ rfl
set_option maxRecDepth 100000 in
theorem s287_1198 {j : Nat} {a0 : av} {a1 : av} {a2 : av} {a3 : av} {st : List av} (S : Sto) : run 287 j 1198 [a0, a1, a2, a3] st S = run 287 j 1199 [a0, a1, a2, a3] (vI 4 :: st) S := st_ rfl
set_option maxRecDepth 100000 in
theorem s287_1199 {j : Nat} {a0 : av} {a1 : av} {a2 : av} {a3 : av} {st : List av} (x y : Int32) (S : Sto) : run 287 j 1199 [a0, a1, a2, a3] (vI y :: vI x :: st) S = run 287 j 1200 [a0, a1, a2, a3] (vI (x + y) :: st) S := st_ rfl
set_option maxRecDepth 100000 in
theorem s287_1200 {j : Nat} {a0 : av} {a1 : av} {a2 : av} {a3 : av} {st : List av} (x : Int32) (q : Nat) (S : Sto) : run 287 j 1200 [a0, a1, a2, a3] (vI x :: vR 102 q :: st) S = if ib x (S.1 103 0 0).toNatClampNeg then run 287 j 1201 [a0, a1, a2, a3] (vI (S.1 102 q x.toNatClampNeg) :: st) S else none := st_itN rfl
set_option maxRecDepth 100000 in
theorem s287_1201 {j : Nat} {a0 : av} {a1 : av} {a2 : av} {a3 : av} (x0 : Int32) (x1 : Int32) (x2 : Int32) (x3 : Int32) (x4 : Nat) (S : Sto) : run 287 j 1201 [a0, a1, a2, a3] [vI x0, vI x1, vI x2, vI x3, vR 0 x4] S = bV (call 126 0 [vR 0 x4, vI x3, vI x2, vI x1, vI x0] S) (fun v S' => run 287 j 1204 [a0, a1, a2, a3] (v :: []) S') := st_cV rfl
set_option maxRecDepth 100000 in
theorem s287_1204 {j : Nat} {a0 : av} {a1 : av} {a3 : av} {st : List av} (q : Nat) (S : Sto) : run 287 j 1204 [a0, a1, vR 50 q, a3] st S = run 287 j 1205 [a0, a1, vR 50 q, a3] (vR 50 q :: st) S := st_ rfl
set_option maxRecDepth 100000 in
theorem s287_1205 {j : Nat} {a1 : av} {a2 : av} {a3 : av} {st : List av} (q : Nat) (S : Sto) : run 287 j 1205 [vR 102 q, a1, a2, a3] st S = run 287 j 1206 [vR 102 q, a1, a2, a3] (vR 102 q :: st) S := st_ rfl
set_option maxRecDepth 100000 in
theorem s287_1206 {j : Nat} {a0 : av} {a1 : av} {a2 : av} {st : List av} (x : Int32) (S : Sto) : run 287 j 1206 [a0, a1, a2, vI x] st S = run 287 j 1207 [a0, a1, a2, vI x] (vI x :: st) S := st_ rfl
set_option maxRecDepth 100000 in
theorem s287_1207 {j : Nat} {a0 : av} {a1 : av} {a2 : av} {a3 : av} {st : List av} (S : Sto) : run 287 j 1207 [a0, a1, a2, a3] st S = run 287 j 1208 [a0, a1, a2, a3] (vI 1 :: st) S := st_ rfl
set_option maxRecDepth 100000 in
theorem s287_1208 {j : Nat} {a0 : av} {a1 : av} {a2 : av} {a3 : av} {st : List av} (x y : Int32) (S : Sto) : run 287 j 1208 [a0, a1, a2, a3] (vI y :: vI x :: st) S = run 287 j 1209 [a0, a1, a2, a3] (vI (x + y) :: st) S := st_ rfl
set_option maxRecDepth 100000 in
theorem s287_1209 {j : Nat} {a0 : av} {a1 : av} {a2 : av} {a3 : av} {st : List av} (x : Int32) (q : Nat) (S : Sto) : run 287 j 1209 [a0, a1, a2, a3] (vI x :: vR 102 q :: st) S = if ib x (S.1 103 0 0).toNatClampNeg then run 287 j 1210 [a0, a1, a2, a3] (vI (S.1 102 q x.toNatClampNeg) :: st) S else none := st_itN rfl
set_option maxRecDepth 100000 in
theorem s287_1210 {j : Nat} {a1 : av} {a2 : av} {a3 : av} {st : List av} (q : Nat) (S : Sto) : run 287 j 1210 [vR 102 q, a1, a2, a3] st S = run 287 j 1211 [vR 102 q, a1, a2, a3] (vR 102 q :: st) S := st_ rfl
set_option maxRecDepth 100000 in
theorem s287_1211 {j : Nat} {a0 : av} {a1 : av} {a2 : av} {st : List av} (x : Int32) (S : Sto) : run 287 j 1211 [a0, a1, a2, vI x] st S = run 287 j 1212 [a0, a1, a2, vI x] (vI x :: st) S := st_ rfl
set_option maxRecDepth 100000 in
theorem s287_1212 {j : Nat} {a0 : av} {a1 : av} {a2 : av} {a3 : av} {st : List av} (S : Sto) : run 287 j 1212 [a0, a1, a2, a3] st S = run 287 j 1213 [a0, a1, a2, a3] (vI 2 :: st) S := st_ rfl
set_option maxRecDepth 100000 in
theorem s287_1213 {j : Nat} {a0 : av} {a1 : av} {a2 : av} {a3 : av} {st : List av} (x y : Int32) (S : Sto) : run 287 j 1213 [a0, a1, a2, a3] (vI y :: vI x :: st) S = run 287 j 1214 [a0, a1, a2, a3] (vI (x + y) :: st) S := st_ rfl
set_option maxRecDepth 100000 in
theorem s287_1214 {j : Nat} {a0 : av} {a1 : av} {a2 : av} {a3 : av} {st : List av} (x : Int32) (q : Nat) (S : Sto) : run 287 j 1214 [a0, a1, a2, a3] (vI x :: vR 102 q :: st) S = if ib x (S.1 103 0 0).toNatClampNeg then run 287 j 1215 [a0, a1, a2, a3] (vI (S.1 102 q x.toNatClampNeg) :: st) S else none := st_itN rfl
set_option maxRecDepth 100000 in
theorem s287_1215 {j : Nat} {a1 : av} {a2 : av} {a3 : av} {st : List av} (q : Nat) (S : Sto) : run 287 j 1215 [vR 102 q, a1, a2, a3] st S = run 287 j 1216 [vR 102 q, a1, a2, a3] (vR 102 q :: st) S := st_ rfl
set_option maxRecDepth 100000 in
theorem s287_1216 {j : Nat} {a0 : av} {a1 : av} {a2 : av} {st : List av} (x : Int32) (S : Sto) : run 287 j 1216 [a0, a1, a2, vI x] st S = run 287 j 1217 [a0, a1, a2, vI x] (vI x :: st) S := st_ rfl
set_option maxRecDepth 100000 in
theorem s287_1217 {j : Nat} {a0 : av} {a1 : av} {a2 : av} {a3 : av} {st : List av} (S : Sto) : run 287 j 1217 [a0, a1, a2, a3] st S = run 287 j 1218 [a0, a1, a2, a3] (vI 3 :: st) S := st_ rfl
set_option maxRecDepth 100000 in
theorem s287_1218 {j : Nat} {a0 : av} {a1 : av} {a2 : av} {a3 : av} {st : List av} (x y : Int32) (S : Sto) : run 287 j 1218 [a0, a1, a2, a3] (vI y :: vI x :: st) S = run 287 j 1219 [a0, a1, a2, a3] (vI (x + y) :: st) S := st_ rfl
set_option maxRecDepth 100000 in
theorem s287_1219 {j : Nat} {a0 : av} {a1 : av} {a2 : av} {a3 : av} {st : List av} (x : Int32) (q : Nat) (S : Sto) : run 287 j 1219 [a0, a1, a2, a3] (vI x :: vR 102 q :: st) S = if ib x (S.1 103 0 0).toNatClampNeg then run 287 j 1220 [a0, a1, a2, a3] (vI (S.1 102 q x.toNatClampNeg) :: st) S else none := st_itN rfl
set_option maxRecDepth 100000 in
theorem s287_1220 {j : Nat} {a1 : av} {a2 : av} {a3 : av} {st : List av} (q : Nat) (S : Sto) : run 287 j 1220 [vR 102 q, a1, a2, a3] st S = run 287 j 1221 [vR 102 q, a1, a2, a3] (vR 102 q :: st) S := st_ rfl
set_option maxRecDepth 100000 in
theorem s287_1221 {j : Nat} {a0 : av} {a1 : av} {a2 : av} {st : List av} (x : Int32) (S : Sto) : run 287 j 1221 [a0, a1, a2, vI x] st S = run 287 j 1222 [a0, a1, a2, vI x] (vI x :: st) S := st_ rfl
set_option maxRecDepth 100000 in
theorem s287_1222 {j : Nat} {a0 : av} {a1 : av} {a2 : av} {a3 : av} {st : List av} (S : Sto) : run 287 j 1222 [a0, a1, a2, a3] st S = run 287 j 1223 [a0, a1, a2, a3] (vI 4 :: st) S := st_ rfl
set_option maxRecDepth 100000 in
theorem s287_1223 {j : Nat} {a0 : av} {a1 : av} {a2 : av} {a3 : av} {st : List av} (x y : Int32) (S : Sto) : run 287 j 1223 [a0, a1, a2, a3] (vI y :: vI x :: st) S = run 287 j 1224 [a0, a1, a2, a3] (vI (x + y) :: st) S := st_ rfl
set_option maxRecDepth 100000 in
theorem s287_1224 {j : Nat} {a0 : av} {a1 : av} {a2 : av} {a3 : av} {st : List av} (x : Int32) (q : Nat) (S : Sto) : run 287 j 1224 [a0, a1, a2, a3] (vI x :: vR 102 q :: st) S = if ib x (S.1 103 0 0).toNatClampNeg then run 287 j 1225 [a0, a1, a2, a3] (vI (S.1 102 q x.toNatClampNeg) :: st) S else none := st_itN rfl
set_option maxRecDepth 100000 in
theorem s287_1225 {j : Nat} {a0 : av} {a1 : av} {a2 : av} {a3 : av} (x0 : Int32) (x1 : Int32) (x2 : Int32) (x3 : Int32) (x4 : Nat) (x5 : Int32) (S : Sto) : run 287 j 1225 [a0, a1, a2, a3] [vI x0, vI x1, vI x2, vI x3, vR 50 x4, vI x5] S = bV (call 241 0 [vR 50 x4, vI x3, vI x2, vI x1, vI x0] S) (fun v S' => run 287 j 1228 [a0, a1, a2, a3] (v :: [vI x5]) S') := st_cV rfl
set_option maxRecDepth 100000 in
theorem s287_1228 {j : Nat} {a0 : av} {a1 : av} {a2 : av} {a3 : av} {st : List av} (x y : Int32) (S : Sto) : run 287 j 1228 [a0, a1, a2, a3] (vI y :: vI x :: st) S = if x = y then run 287 j 1470 [a0, a1, a2, a3] st S else run 287 j 1231 [a0, a1, a2, a3] st S := st_ite rfl
set_option maxRecDepth 100000 in
theorem s287_1231 {j : Nat} {a0 : av} {a1 : av} {a2 : av} {a3 : av} {st : List av} (S : Sto) : run 287 j 1231 [a0, a1, a2, a3] st S = run 287 j 1232 [a0, a1, a2, a3] (vI 0 :: st) S := st_ rfl
set_option maxRecDepth 100000 in
theorem s287_1232 {j : Nat} {a0 : av} {a1 : av} {a2 : av} {a3 : av} (x : Int32) (S : Sto) : run 287 j 1232 [a0, a1, a2, a3] [vI x] S = if vp_nar .boolean x = x then some (some (vI x), S) else none := st_rb rfl
set_option maxRecDepth 100000 in
theorem s287_1233 {j : Nat} {a0 : av} {a2 : av} {a3 : av} {st : List av} (q : Nat) (S : Sto) : run 287 j 1233 [a0, vR 0 q, a2, a3] st S = run 287 j 1234 [a0, vR 0 q, a2, a3] (vR 0 q :: st) S := st_ rfl
set_option maxRecDepth 100000 in
theorem s287_1234 {j : Nat} {a0 : av} {a1 : av} {a2 : av} {a3 : av} (x0 : Nat) (S : Sto) : run 287 j 1234 [a0, a1, a2, a3] [vR 0 x0] S = bV (call 127 0 [vR 0 x0] S) (fun v S' => run 287 j 1237 [a0, a1, a2, a3] (v :: []) S') := st_cV rfl
set_option maxRecDepth 100000 in
theorem s287_1237 {j : Nat} {a0 : av} {a1 : av} {a3 : av} {st : List av} (q : Nat) (S : Sto) : run 287 j 1237 [a0, a1, vR 50 q, a3] st S = run 287 j 1238 [a0, a1, vR 50 q, a3] (vR 50 q :: st) S := st_ rfl
set_option maxRecDepth 100000 in
theorem s287_1238 {j : Nat} {a0 : av} {a1 : av} {a2 : av} {a3 : av} (x0 : Nat) (x1 : Int32) (S : Sto) : run 287 j 1238 [a0, a1, a2, a3] [vR 50 x0, vI x1] S = bV (call 246 0 [vR 50 x0] S) (fun v S' => run 287 j 1241 [a0, a1, a2, a3] (v :: [vI x1]) S') := st_cV rfl
set_option maxRecDepth 100000 in
theorem s287_1241 {j : Nat} {a0 : av} {a1 : av} {a2 : av} {a3 : av} {st : List av} (x y : Int32) (S : Sto) : run 287 j 1241 [a0, a1, a2, a3] (vI y :: vI x :: st) S = if x = y then run 287 j 1470 [a0, a1, a2, a3] st S else run 287 j 1244 [a0, a1, a2, a3] st S := st_ite rfl
set_option maxRecDepth 100000 in
theorem s287_1244 {j : Nat} {a0 : av} {a1 : av} {a2 : av} {a3 : av} {st : List av} (S : Sto) : run 287 j 1244 [a0, a1, a2, a3] st S = run 287 j 1245 [a0, a1, a2, a3] (vI 0 :: st) S := st_ rfl
set_option maxRecDepth 100000 in
theorem s287_1245 {j : Nat} {a0 : av} {a1 : av} {a2 : av} {a3 : av} (x : Int32) (S : Sto) : run 287 j 1245 [a0, a1, a2, a3] [vI x] S = if vp_nar .boolean x = x then some (some (vI x), S) else none := st_rb rfl
set_option maxRecDepth 100000 in
theorem s287_1246 {j : Nat} {a0 : av} {a2 : av} {a3 : av} {st : List av} (q : Nat) (S : Sto) : run 287 j 1246 [a0, vR 0 q, a2, a3] st S = run 287 j 1247 [a0, vR 0 q, a2, a3] (vR 0 q :: st) S := st_ rfl
set_option maxRecDepth 100000 in
theorem s287_1247 {j : Nat} {a1 : av} {a2 : av} {a3 : av} {st : List av} (q : Nat) (S : Sto) : run 287 j 1247 [vR 102 q, a1, a2, a3] st S = run 287 j 1248 [vR 102 q, a1, a2, a3] (vR 102 q :: st) S := st_ rfl
set_option maxRecDepth 100000 in
theorem s287_1248 {j : Nat} {a0 : av} {a1 : av} {a2 : av} {st : List av} (x : Int32) (S : Sto) : run 287 j 1248 [a0, a1, a2, vI x] st S = run 287 j 1249 [a0, a1, a2, vI x] (vI x :: st) S := st_ rfl
set_option maxRecDepth 100000 in
theorem s287_1249 {j : Nat} {a0 : av} {a1 : av} {a2 : av} {a3 : av} {st : List av} (S : Sto) : run 287 j 1249 [a0, a1, a2, a3] st S = run 287 j 1250 [a0, a1, a2, a3] (vI 1 :: st) S := st_ rfl
set_option maxRecDepth 100000 in
theorem s287_1250 {j : Nat} {a0 : av} {a1 : av} {a2 : av} {a3 : av} {st : List av} (x y : Int32) (S : Sto) : run 287 j 1250 [a0, a1, a2, a3] (vI y :: vI x :: st) S = run 287 j 1251 [a0, a1, a2, a3] (vI (x + y) :: st) S := st_ rfl
set_option maxRecDepth 100000 in
theorem s287_1251 {j : Nat} {a0 : av} {a1 : av} {a2 : av} {a3 : av} {st : List av} (x : Int32) (q : Nat) (S : Sto) : run 287 j 1251 [a0, a1, a2, a3] (vI x :: vR 102 q :: st) S = if ib x (S.1 103 0 0).toNatClampNeg then run 287 j 1252 [a0, a1, a2, a3] (vI (S.1 102 q x.toNatClampNeg) :: st) S else none := st_itN rfl
set_option maxRecDepth 100000 in
theorem s287_1252 {j : Nat} {a0 : av} {a1 : av} {a2 : av} {a3 : av} (x0 : Int32) (x1 : Nat) (S : Sto) : run 287 j 1252 [a0, a1, a2, a3] [vI x0, vR 0 x1] S = bV (call 128 0 [vR 0 x1, vI x0] S) (fun v S' => run 287 j 1255 [a0, a1, a2, a3] (v :: []) S') := st_cV rfl
set_option maxRecDepth 100000 in
theorem s287_1255 {j : Nat} {a0 : av} {a1 : av} {a3 : av} {st : List av} (q : Nat) (S : Sto) : run 287 j 1255 [a0, a1, vR 50 q, a3] st S = run 287 j 1256 [a0, a1, vR 50 q, a3] (vR 50 q :: st) S := st_ rfl
set_option maxRecDepth 100000 in
theorem s287_1256 {j : Nat} {a1 : av} {a2 : av} {a3 : av} {st : List av} (q : Nat) (S : Sto) : run 287 j 1256 [vR 102 q, a1, a2, a3] st S = run 287 j 1257 [vR 102 q, a1, a2, a3] (vR 102 q :: st) S := st_ rfl
set_option maxRecDepth 100000 in
theorem s287_1257 {j : Nat} {a0 : av} {a1 : av} {a2 : av} {st : List av} (x : Int32) (S : Sto) : run 287 j 1257 [a0, a1, a2, vI x] st S = run 287 j 1258 [a0, a1, a2, vI x] (vI x :: st) S := st_ rfl
set_option maxRecDepth 100000 in
theorem s287_1258 {j : Nat} {a0 : av} {a1 : av} {a2 : av} {a3 : av} {st : List av} (S : Sto) : run 287 j 1258 [a0, a1, a2, a3] st S = run 287 j 1259 [a0, a1, a2, a3] (vI 1 :: st) S := st_ rfl
set_option maxRecDepth 100000 in
theorem s287_1259 {j : Nat} {a0 : av} {a1 : av} {a2 : av} {a3 : av} {st : List av} (x y : Int32) (S : Sto) : run 287 j 1259 [a0, a1, a2, a3] (vI y :: vI x :: st) S = run 287 j 1260 [a0, a1, a2, a3] (vI (x + y) :: st) S := st_ rfl
set_option maxRecDepth 100000 in
theorem s287_1260 {j : Nat} {a0 : av} {a1 : av} {a2 : av} {a3 : av} {st : List av} (x : Int32) (q : Nat) (S : Sto) : run 287 j 1260 [a0, a1, a2, a3] (vI x :: vR 102 q :: st) S = if ib x (S.1 103 0 0).toNatClampNeg then run 287 j 1261 [a0, a1, a2, a3] (vI (S.1 102 q x.toNatClampNeg) :: st) S else none := st_itN rfl
set_option maxRecDepth 100000 in
theorem s287_1261 {j : Nat} {a0 : av} {a1 : av} {a2 : av} {a3 : av} (x0 : Int32) (x1 : Nat) (x2 : Int32) (S : Sto) : run 287 j 1261 [a0, a1, a2, a3] [vI x0, vR 50 x1, vI x2] S = bV (call 249 0 [vR 50 x1, vI x0] S) (fun v S' => run 287 j 1264 [a0, a1, a2, a3] (v :: [vI x2]) S') := st_cV rfl
set_option maxRecDepth 100000 in
theorem s287_1264 {j : Nat} {a0 : av} {a1 : av} {a2 : av} {a3 : av} {st : List av} (x y : Int32) (S : Sto) : run 287 j 1264 [a0, a1, a2, a3] (vI y :: vI x :: st) S = if x = y then run 287 j 1470 [a0, a1, a2, a3] st S else run 287 j 1267 [a0, a1, a2, a3] st S := st_ite rfl
set_option maxRecDepth 100000 in
theorem s287_1267 {j : Nat} {a0 : av} {a1 : av} {a2 : av} {a3 : av} {st : List av} (S : Sto) : run 287 j 1267 [a0, a1, a2, a3] st S = run 287 j 1268 [a0, a1, a2, a3] (vI 0 :: st) S := st_ rfl
set_option maxRecDepth 100000 in
theorem s287_1268 {j : Nat} {a0 : av} {a1 : av} {a2 : av} {a3 : av} (x : Int32) (S : Sto) : run 287 j 1268 [a0, a1, a2, a3] [vI x] S = if vp_nar .boolean x = x then some (some (vI x), S) else none := st_rb rfl
set_option maxRecDepth 100000 in
theorem s287_1269 {j : Nat} {a0 : av} {a2 : av} {a3 : av} {st : List av} (q : Nat) (S : Sto) : run 287 j 1269 [a0, vR 0 q, a2, a3] st S = run 287 j 1270 [a0, vR 0 q, a2, a3] (vR 0 q :: st) S := st_ rfl
set_option maxRecDepth 100000 in
theorem s287_1270 {j : Nat} {a1 : av} {a2 : av} {a3 : av} {st : List av} (q : Nat) (S : Sto) : run 287 j 1270 [vR 102 q, a1, a2, a3] st S = run 287 j 1271 [vR 102 q, a1, a2, a3] (vR 102 q :: st) S := st_ rfl
set_option maxRecDepth 100000 in
theorem s287_1271 {j : Nat} {a0 : av} {a1 : av} {a2 : av} {st : List av} (x : Int32) (S : Sto) : run 287 j 1271 [a0, a1, a2, vI x] st S = run 287 j 1272 [a0, a1, a2, vI x] (vI x :: st) S := st_ rfl
set_option maxRecDepth 100000 in
theorem s287_1272 {j : Nat} {a0 : av} {a1 : av} {a2 : av} {a3 : av} {st : List av} (S : Sto) : run 287 j 1272 [a0, a1, a2, a3] st S = run 287 j 1273 [a0, a1, a2, a3] (vI 1 :: st) S := st_ rfl
set_option maxRecDepth 100000 in
theorem s287_1273 {j : Nat} {a0 : av} {a1 : av} {a2 : av} {a3 : av} {st : List av} (x y : Int32) (S : Sto) : run 287 j 1273 [a0, a1, a2, a3] (vI y :: vI x :: st) S = run 287 j 1274 [a0, a1, a2, a3] (vI (x + y) :: st) S := st_ rfl
set_option maxRecDepth 100000 in
theorem s287_1274 {j : Nat} {a0 : av} {a1 : av} {a2 : av} {a3 : av} {st : List av} (x : Int32) (q : Nat) (S : Sto) : run 287 j 1274 [a0, a1, a2, a3] (vI x :: vR 102 q :: st) S = if ib x (S.1 103 0 0).toNatClampNeg then run 287 j 1275 [a0, a1, a2, a3] (vI (S.1 102 q x.toNatClampNeg) :: st) S else none := st_itN rfl
set_option maxRecDepth 100000 in
theorem s287_1275 {j : Nat} {a0 : av} {a1 : av} {a2 : av} {a3 : av} (x0 : Int32) (x1 : Nat) (S : Sto) : run 287 j 1275 [a0, a1, a2, a3] [vI x0, vR 0 x1] S = bV (call 129 0 [vR 0 x1, vI x0] S) (fun v S' => run 287 j 1278 [a0, a1, a2, a3] (v :: []) S') := st_cV rfl
set_option maxRecDepth 100000 in
theorem s287_1278 {j : Nat} {a0 : av} {a1 : av} {a3 : av} {st : List av} (q : Nat) (S : Sto) : run 287 j 1278 [a0, a1, vR 50 q, a3] st S = run 287 j 1279 [a0, a1, vR 50 q, a3] (vR 50 q :: st) S := st_ rfl
set_option maxRecDepth 100000 in
theorem s287_1279 {j : Nat} {a1 : av} {a2 : av} {a3 : av} {st : List av} (q : Nat) (S : Sto) : run 287 j 1279 [vR 102 q, a1, a2, a3] st S = run 287 j 1280 [vR 102 q, a1, a2, a3] (vR 102 q :: st) S := st_ rfl
set_option maxRecDepth 100000 in
theorem s287_1280 {j : Nat} {a0 : av} {a1 : av} {a2 : av} {st : List av} (x : Int32) (S : Sto) : run 287 j 1280 [a0, a1, a2, vI x] st S = run 287 j 1281 [a0, a1, a2, vI x] (vI x :: st) S := st_ rfl
set_option maxRecDepth 100000 in
theorem s287_1281 {j : Nat} {a0 : av} {a1 : av} {a2 : av} {a3 : av} {st : List av} (S : Sto) : run 287 j 1281 [a0, a1, a2, a3] st S = run 287 j 1282 [a0, a1, a2, a3] (vI 1 :: st) S := st_ rfl
set_option maxRecDepth 100000 in
theorem s287_1282 {j : Nat} {a0 : av} {a1 : av} {a2 : av} {a3 : av} {st : List av} (x y : Int32) (S : Sto) : run 287 j 1282 [a0, a1, a2, a3] (vI y :: vI x :: st) S = run 287 j 1283 [a0, a1, a2, a3] (vI (x + y) :: st) S := st_ rfl
set_option maxRecDepth 100000 in
theorem s287_1283 {j : Nat} {a0 : av} {a1 : av} {a2 : av} {a3 : av} {st : List av} (x : Int32) (q : Nat) (S : Sto) : run 287 j 1283 [a0, a1, a2, a3] (vI x :: vR 102 q :: st) S = if ib x (S.1 103 0 0).toNatClampNeg then run 287 j 1284 [a0, a1, a2, a3] (vI (S.1 102 q x.toNatClampNeg) :: st) S else none := st_itN rfl
set_option maxRecDepth 100000 in
theorem s287_1284 {j : Nat} {a0 : av} {a1 : av} {a2 : av} {a3 : av} (x0 : Int32) (x1 : Nat) (x2 : Int32) (S : Sto) : run 287 j 1284 [a0, a1, a2, a3] [vI x0, vR 50 x1, vI x2] S = bV (call 254 0 [vR 50 x1, vI x0] S) (fun v S' => run 287 j 1287 [a0, a1, a2, a3] (v :: [vI x2]) S') := st_cV rfl
set_option maxRecDepth 100000 in
theorem s287_1287 {j : Nat} {a0 : av} {a1 : av} {a2 : av} {a3 : av} {st : List av} (x y : Int32) (S : Sto) : run 287 j 1287 [a0, a1, a2, a3] (vI y :: vI x :: st) S = if x = y then run 287 j 1470 [a0, a1, a2, a3] st S else run 287 j 1290 [a0, a1, a2, a3] st S := st_ite rfl
set_option maxRecDepth 100000 in
theorem s287_1290 {j : Nat} {a0 : av} {a1 : av} {a2 : av} {a3 : av} {st : List av} (S : Sto) : run 287 j 1290 [a0, a1, a2, a3] st S = run 287 j 1291 [a0, a1, a2, a3] (vI 0 :: st) S := st_ rfl
set_option maxRecDepth 100000 in
theorem s287_1291 {j : Nat} {a0 : av} {a1 : av} {a2 : av} {a3 : av} (x : Int32) (S : Sto) : run 287 j 1291 [a0, a1, a2, a3] [vI x] S = if vp_nar .boolean x = x then some (some (vI x), S) else none := st_rb rfl
set_option maxRecDepth 100000 in
theorem s287_1292 {j : Nat} {a0 : av} {a2 : av} {a3 : av} {st : List av} (q : Nat) (S : Sto) : run 287 j 1292 [a0, vR 0 q, a2, a3] st S = run 287 j 1293 [a0, vR 0 q, a2, a3] (vR 0 q :: st) S := st_ rfl
set_option maxRecDepth 100000 in
theorem s287_1293 {j : Nat} {a1 : av} {a2 : av} {a3 : av} {st : List av} (q : Nat) (S : Sto) : run 287 j 1293 [vR 102 q, a1, a2, a3] st S = run 287 j 1294 [vR 102 q, a1, a2, a3] (vR 102 q :: st) S := st_ rfl
set_option maxRecDepth 100000 in
theorem s287_1294 {j : Nat} {a0 : av} {a1 : av} {a2 : av} {st : List av} (x : Int32) (S : Sto) : run 287 j 1294 [a0, a1, a2, vI x] st S = run 287 j 1295 [a0, a1, a2, vI x] (vI x :: st) S := st_ rfl
set_option maxRecDepth 100000 in
theorem s287_1295 {j : Nat} {a0 : av} {a1 : av} {a2 : av} {a3 : av} {st : List av} (S : Sto) : run 287 j 1295 [a0, a1, a2, a3] st S = run 287 j 1296 [a0, a1, a2, a3] (vI 1 :: st) S := st_ rfl
set_option maxRecDepth 100000 in
theorem s287_1296 {j : Nat} {a0 : av} {a1 : av} {a2 : av} {a3 : av} {st : List av} (x y : Int32) (S : Sto) : run 287 j 1296 [a0, a1, a2, a3] (vI y :: vI x :: st) S = run 287 j 1297 [a0, a1, a2, a3] (vI (x + y) :: st) S := st_ rfl
set_option maxRecDepth 100000 in
theorem s287_1297 {j : Nat} {a0 : av} {a1 : av} {a2 : av} {a3 : av} {st : List av} (x : Int32) (q : Nat) (S : Sto) : run 287 j 1297 [a0, a1, a2, a3] (vI x :: vR 102 q :: st) S = if ib x (S.1 103 0 0).toNatClampNeg then run 287 j 1298 [a0, a1, a2, a3] (vI (S.1 102 q x.toNatClampNeg) :: st) S else none := st_itN rfl
set_option maxRecDepth 100000 in
theorem s287_1298 {j : Nat} {a1 : av} {a2 : av} {a3 : av} {st : List av} (q : Nat) (S : Sto) : run 287 j 1298 [vR 102 q, a1, a2, a3] st S = run 287 j 1299 [vR 102 q, a1, a2, a3] (vR 102 q :: st) S := st_ rfl
set_option maxRecDepth 100000 in
theorem s287_1299 {j : Nat} {a0 : av} {a1 : av} {a2 : av} {st : List av} (x : Int32) (S : Sto) : run 287 j 1299 [a0, a1, a2, vI x] st S = run 287 j 1300 [a0, a1, a2, vI x] (vI x :: st) S := st_ rfl
set_option maxRecDepth 100000 in
theorem s287_1300 {j : Nat} {a0 : av} {a1 : av} {a2 : av} {a3 : av} {st : List av} (S : Sto) : run 287 j 1300 [a0, a1, a2, a3] st S = run 287 j 1301 [a0, a1, a2, a3] (vI 2 :: st) S := st_ rfl
set_option maxRecDepth 100000 in
theorem s287_1301 {j : Nat} {a0 : av} {a1 : av} {a2 : av} {a3 : av} {st : List av} (x y : Int32) (S : Sto) : run 287 j 1301 [a0, a1, a2, a3] (vI y :: vI x :: st) S = run 287 j 1302 [a0, a1, a2, a3] (vI (x + y) :: st) S := st_ rfl
set_option maxRecDepth 100000 in
theorem s287_1302 {j : Nat} {a0 : av} {a1 : av} {a2 : av} {a3 : av} {st : List av} (x : Int32) (q : Nat) (S : Sto) : run 287 j 1302 [a0, a1, a2, a3] (vI x :: vR 102 q :: st) S = if ib x (S.1 103 0 0).toNatClampNeg then run 287 j 1303 [a0, a1, a2, a3] (vI (S.1 102 q x.toNatClampNeg) :: st) S else none := st_itN rfl
set_option maxRecDepth 100000 in
theorem s287_1303 {j : Nat} {a0 : av} {a1 : av} {a2 : av} {a3 : av} (x0 : Int32) (x1 : Int32) (x2 : Nat) (S : Sto) : run 287 j 1303 [a0, a1, a2, a3] [vI x0, vI x1, vR 0 x2] S = bV (call 130 0 [vR 0 x2, vI x1, vI x0] S) (fun v S' => run 287 j 1306 [a0, a1, a2, a3] (v :: []) S') := st_cV rfl
set_option maxRecDepth 100000 in
theorem s287_1306 {j : Nat} {a0 : av} {a1 : av} {a3 : av} {st : List av} (q : Nat) (S : Sto) : run 287 j 1306 [a0, a1, vR 50 q, a3] st S = run 287 j 1307 [a0, a1, vR 50 q, a3] (vR 50 q :: st) S := st_ rfl
set_option maxRecDepth 100000 in
theorem s287_1307 {j : Nat} {a1 : av} {a2 : av} {a3 : av} {st : List av} (q : Nat) (S : Sto) : run 287 j 1307 [vR 102 q, a1, a2, a3] st S = run 287 j 1308 [vR 102 q, a1, a2, a3] (vR 102 q :: st) S := st_ rfl
set_option maxRecDepth 100000 in
theorem s287_1308 {j : Nat} {a0 : av} {a1 : av} {a2 : av} {st : List av} (x : Int32) (S : Sto) : run 287 j 1308 [a0, a1, a2, vI x] st S = run 287 j 1309 [a0, a1, a2, vI x] (vI x :: st) S := st_ rfl
set_option maxRecDepth 100000 in
theorem s287_1309 {j : Nat} {a0 : av} {a1 : av} {a2 : av} {a3 : av} {st : List av} (S : Sto) : run 287 j 1309 [a0, a1, a2, a3] st S = run 287 j 1310 [a0, a1, a2, a3] (vI 1 :: st) S := st_ rfl
set_option maxRecDepth 100000 in
theorem s287_1310 {j : Nat} {a0 : av} {a1 : av} {a2 : av} {a3 : av} {st : List av} (x y : Int32) (S : Sto) : run 287 j 1310 [a0, a1, a2, a3] (vI y :: vI x :: st) S = run 287 j 1311 [a0, a1, a2, a3] (vI (x + y) :: st) S := st_ rfl
set_option maxRecDepth 100000 in
theorem s287_1311 {j : Nat} {a0 : av} {a1 : av} {a2 : av} {a3 : av} {st : List av} (x : Int32) (q : Nat) (S : Sto) : run 287 j 1311 [a0, a1, a2, a3] (vI x :: vR 102 q :: st) S = if ib x (S.1 103 0 0).toNatClampNeg then run 287 j 1312 [a0, a1, a2, a3] (vI (S.1 102 q x.toNatClampNeg) :: st) S else none := st_itN rfl
set_option maxRecDepth 100000 in
theorem s287_1312 {j : Nat} {a1 : av} {a2 : av} {a3 : av} {st : List av} (q : Nat) (S : Sto) : run 287 j 1312 [vR 102 q, a1, a2, a3] st S = run 287 j 1313 [vR 102 q, a1, a2, a3] (vR 102 q :: st) S := st_ rfl
set_option maxRecDepth 100000 in
theorem s287_1313 {j : Nat} {a0 : av} {a1 : av} {a2 : av} {st : List av} (x : Int32) (S : Sto) : run 287 j 1313 [a0, a1, a2, vI x] st S = run 287 j 1314 [a0, a1, a2, vI x] (vI x :: st) S := st_ rfl
set_option maxRecDepth 100000 in
theorem s287_1314 {j : Nat} {a0 : av} {a1 : av} {a2 : av} {a3 : av} {st : List av} (S : Sto) : run 287 j 1314 [a0, a1, a2, a3] st S = run 287 j 1315 [a0, a1, a2, a3] (vI 2 :: st) S := st_ rfl
set_option maxRecDepth 100000 in
theorem s287_1315 {j : Nat} {a0 : av} {a1 : av} {a2 : av} {a3 : av} {st : List av} (x y : Int32) (S : Sto) : run 287 j 1315 [a0, a1, a2, a3] (vI y :: vI x :: st) S = run 287 j 1316 [a0, a1, a2, a3] (vI (x + y) :: st) S := st_ rfl
set_option maxRecDepth 100000 in
theorem s287_1316 {j : Nat} {a0 : av} {a1 : av} {a2 : av} {a3 : av} {st : List av} (x : Int32) (q : Nat) (S : Sto) : run 287 j 1316 [a0, a1, a2, a3] (vI x :: vR 102 q :: st) S = if ib x (S.1 103 0 0).toNatClampNeg then run 287 j 1317 [a0, a1, a2, a3] (vI (S.1 102 q x.toNatClampNeg) :: st) S else none := st_itN rfl
set_option maxRecDepth 100000 in
theorem s287_1317 {j : Nat} {a0 : av} {a1 : av} {a2 : av} {a3 : av} (x0 : Int32) (x1 : Int32) (x2 : Nat) (x3 : Int32) (S : Sto) : run 287 j 1317 [a0, a1, a2, a3] [vI x0, vI x1, vR 50 x2, vI x3] S = bV (call 255 0 [vR 50 x2, vI x1, vI x0] S) (fun v S' => run 287 j 1320 [a0, a1, a2, a3] (v :: [vI x3]) S') := st_cV rfl
set_option maxRecDepth 100000 in
theorem s287_1320 {j : Nat} {a0 : av} {a1 : av} {a2 : av} {a3 : av} {st : List av} (x y : Int32) (S : Sto) : run 287 j 1320 [a0, a1, a2, a3] (vI y :: vI x :: st) S = if x = y then run 287 j 1470 [a0, a1, a2, a3] st S else run 287 j 1323 [a0, a1, a2, a3] st S := st_ite rfl
set_option maxRecDepth 100000 in
theorem s287_1323 {j : Nat} {a0 : av} {a1 : av} {a2 : av} {a3 : av} {st : List av} (S : Sto) : run 287 j 1323 [a0, a1, a2, a3] st S = run 287 j 1324 [a0, a1, a2, a3] (vI 0 :: st) S := st_ rfl
set_option maxRecDepth 100000 in
theorem s287_1324 {j : Nat} {a0 : av} {a1 : av} {a2 : av} {a3 : av} (x : Int32) (S : Sto) : run 287 j 1324 [a0, a1, a2, a3] [vI x] S = if vp_nar .boolean x = x then some (some (vI x), S) else none := st_rb rfl
set_option maxRecDepth 100000 in
theorem s287_1325 {j : Nat} {a0 : av} {a2 : av} {a3 : av} {st : List av} (q : Nat) (S : Sto) : run 287 j 1325 [a0, vR 0 q, a2, a3] st S = run 287 j 1326 [a0, vR 0 q, a2, a3] (vR 0 q :: st) S := st_ rfl
set_option maxRecDepth 100000 in
theorem s287_1326 {j : Nat} {a1 : av} {a2 : av} {a3 : av} {st : List av} (q : Nat) (S : Sto) : run 287 j 1326 [vR 102 q, a1, a2, a3] st S = run 287 j 1327 [vR 102 q, a1, a2, a3] (vR 102 q :: st) S := st_ rfl
set_option maxRecDepth 100000 in
theorem s287_1327 {j : Nat} {a0 : av} {a1 : av} {a2 : av} {st : List av} (x : Int32) (S : Sto) : run 287 j 1327 [a0, a1, a2, vI x] st S = run 287 j 1328 [a0, a1, a2, vI x] (vI x :: st) S := st_ rfl
set_option maxRecDepth 100000 in
theorem s287_1328 {j : Nat} {a0 : av} {a1 : av} {a2 : av} {a3 : av} {st : List av} (S : Sto) : run 287 j 1328 [a0, a1, a2, a3] st S = run 287 j 1329 [a0, a1, a2, a3] (vI 1 :: st) S := st_ rfl
set_option maxRecDepth 100000 in
theorem s287_1329 {j : Nat} {a0 : av} {a1 : av} {a2 : av} {a3 : av} {st : List av} (x y : Int32) (S : Sto) : run 287 j 1329 [a0, a1, a2, a3] (vI y :: vI x :: st) S = run 287 j 1330 [a0, a1, a2, a3] (vI (x + y) :: st) S := st_ rfl
set_option maxRecDepth 100000 in
theorem s287_1330 {j : Nat} {a0 : av} {a1 : av} {a2 : av} {a3 : av} {st : List av} (x : Int32) (q : Nat) (S : Sto) : run 287 j 1330 [a0, a1, a2, a3] (vI x :: vR 102 q :: st) S = if ib x (S.1 103 0 0).toNatClampNeg then run 287 j 1331 [a0, a1, a2, a3] (vI (S.1 102 q x.toNatClampNeg) :: st) S else none := st_itN rfl
set_option maxRecDepth 100000 in
theorem s287_1331 {j : Nat} {a1 : av} {a2 : av} {a3 : av} {st : List av} (q : Nat) (S : Sto) : run 287 j 1331 [vR 102 q, a1, a2, a3] st S = run 287 j 1332 [vR 102 q, a1, a2, a3] (vR 102 q :: st) S := st_ rfl
set_option maxRecDepth 100000 in
theorem s287_1332 {j : Nat} {a0 : av} {a1 : av} {a2 : av} {st : List av} (x : Int32) (S : Sto) : run 287 j 1332 [a0, a1, a2, vI x] st S = run 287 j 1333 [a0, a1, a2, vI x] (vI x :: st) S := st_ rfl
set_option maxRecDepth 100000 in
theorem s287_1333 {j : Nat} {a0 : av} {a1 : av} {a2 : av} {a3 : av} {st : List av} (S : Sto) : run 287 j 1333 [a0, a1, a2, a3] st S = run 287 j 1334 [a0, a1, a2, a3] (vI 2 :: st) S := st_ rfl
set_option maxRecDepth 100000 in
theorem s287_1334 {j : Nat} {a0 : av} {a1 : av} {a2 : av} {a3 : av} {st : List av} (x y : Int32) (S : Sto) : run 287 j 1334 [a0, a1, a2, a3] (vI y :: vI x :: st) S = run 287 j 1335 [a0, a1, a2, a3] (vI (x + y) :: st) S := st_ rfl
set_option maxRecDepth 100000 in
theorem s287_1335 {j : Nat} {a0 : av} {a1 : av} {a2 : av} {a3 : av} {st : List av} (x : Int32) (q : Nat) (S : Sto) : run 287 j 1335 [a0, a1, a2, a3] (vI x :: vR 102 q :: st) S = if ib x (S.1 103 0 0).toNatClampNeg then run 287 j 1336 [a0, a1, a2, a3] (vI (S.1 102 q x.toNatClampNeg) :: st) S else none := st_itN rfl
set_option maxRecDepth 100000 in
theorem s287_1336 {j : Nat} {a1 : av} {a2 : av} {a3 : av} {st : List av} (q : Nat) (S : Sto) : run 287 j 1336 [vR 102 q, a1, a2, a3] st S = run 287 j 1337 [vR 102 q, a1, a2, a3] (vR 102 q :: st) S := st_ rfl
set_option maxRecDepth 100000 in
theorem s287_1337 {j : Nat} {a0 : av} {a1 : av} {a2 : av} {st : List av} (x : Int32) (S : Sto) : run 287 j 1337 [a0, a1, a2, vI x] st S = run 287 j 1338 [a0, a1, a2, vI x] (vI x :: st) S := st_ rfl
set_option maxRecDepth 100000 in
theorem s287_1338 {j : Nat} {a0 : av} {a1 : av} {a2 : av} {a3 : av} {st : List av} (S : Sto) : run 287 j 1338 [a0, a1, a2, a3] st S = run 287 j 1339 [a0, a1, a2, a3] (vI 3 :: st) S := st_ rfl
set_option maxRecDepth 100000 in
theorem s287_1339 {j : Nat} {a0 : av} {a1 : av} {a2 : av} {a3 : av} {st : List av} (x y : Int32) (S : Sto) : run 287 j 1339 [a0, a1, a2, a3] (vI y :: vI x :: st) S = run 287 j 1340 [a0, a1, a2, a3] (vI (x + y) :: st) S := st_ rfl
set_option maxRecDepth 100000 in
theorem s287_1340 {j : Nat} {a0 : av} {a1 : av} {a2 : av} {a3 : av} {st : List av} (x : Int32) (q : Nat) (S : Sto) : run 287 j 1340 [a0, a1, a2, a3] (vI x :: vR 102 q :: st) S = if ib x (S.1 103 0 0).toNatClampNeg then run 287 j 1341 [a0, a1, a2, a3] (vI (S.1 102 q x.toNatClampNeg) :: st) S else none := st_itN rfl
set_option maxRecDepth 100000 in
theorem s287_1341 {j : Nat} {a1 : av} {a2 : av} {a3 : av} {st : List av} (q : Nat) (S : Sto) : run 287 j 1341 [vR 102 q, a1, a2, a3] st S = run 287 j 1342 [vR 102 q, a1, a2, a3] (vR 102 q :: st) S := st_ rfl
set_option maxRecDepth 100000 in
theorem s287_1342 {j : Nat} {a0 : av} {a1 : av} {a2 : av} {st : List av} (x : Int32) (S : Sto) : run 287 j 1342 [a0, a1, a2, vI x] st S = run 287 j 1343 [a0, a1, a2, vI x] (vI x :: st) S := st_ rfl
set_option maxRecDepth 100000 in
theorem s287_1343 {j : Nat} {a0 : av} {a1 : av} {a2 : av} {a3 : av} {st : List av} (S : Sto) : run 287 j 1343 [a0, a1, a2, a3] st S = run 287 j 1344 [a0, a1, a2, a3] (vI 4 :: st) S := st_ rfl
set_option maxRecDepth 100000 in
theorem s287_1344 {j : Nat} {a0 : av} {a1 : av} {a2 : av} {a3 : av} {st : List av} (x y : Int32) (S : Sto) : run 287 j 1344 [a0, a1, a2, a3] (vI y :: vI x :: st) S = run 287 j 1345 [a0, a1, a2, a3] (vI (x + y) :: st) S := st_ rfl
set_option maxRecDepth 100000 in
theorem s287_1345 {j : Nat} {a0 : av} {a1 : av} {a2 : av} {a3 : av} {st : List av} (x : Int32) (q : Nat) (S : Sto) : run 287 j 1345 [a0, a1, a2, a3] (vI x :: vR 102 q :: st) S = if ib x (S.1 103 0 0).toNatClampNeg then run 287 j 1346 [a0, a1, a2, a3] (vI (S.1 102 q x.toNatClampNeg) :: st) S else none := st_itN rfl
set_option maxRecDepth 100000 in
theorem s287_1346 {j : Nat} {a0 : av} {a1 : av} {a2 : av} {a3 : av} (x0 : Int32) (x1 : Int32) (x2 : Int32) (x3 : Int32) (x4 : Nat) (S : Sto) : run 287 j 1346 [a0, a1, a2, a3] [vI x0, vI x1, vI x2, vI x3, vR 0 x4] S = bV (call 131 0 [vR 0 x4, vI x3, vI x2, vI x1, vI x0] S) (fun v S' => run 287 j 1349 [a0, a1, a2, a3] (v :: []) S') := st_cV rfl
set_option maxRecDepth 100000 in
theorem s287_1349 {j : Nat} {a0 : av} {a1 : av} {a3 : av} {st : List av} (q : Nat) (S : Sto) : run 287 j 1349 [a0, a1, vR 50 q, a3] st S = run 287 j 1350 [a0, a1, vR 50 q, a3] (vR 50 q :: st) S := st_ rfl
set_option maxRecDepth 100000 in
theorem s287_1350 {j : Nat} {a1 : av} {a2 : av} {a3 : av} {st : List av} (q : Nat) (S : Sto) : run 287 j 1350 [vR 102 q, a1, a2, a3] st S = run 287 j 1351 [vR 102 q, a1, a2, a3] (vR 102 q :: st) S := st_ rfl
set_option maxRecDepth 100000 in
theorem s287_1351 {j : Nat} {a0 : av} {a1 : av} {a2 : av} {st : List av} (x : Int32) (S : Sto) : run 287 j 1351 [a0, a1, a2, vI x] st S = run 287 j 1352 [a0, a1, a2, vI x] (vI x :: st) S := st_ rfl
set_option maxRecDepth 100000 in
theorem s287_1352 {j : Nat} {a0 : av} {a1 : av} {a2 : av} {a3 : av} {st : List av} (S : Sto) : run 287 j 1352 [a0, a1, a2, a3] st S = run 287 j 1353 [a0, a1, a2, a3] (vI 1 :: st) S := st_ rfl
set_option maxRecDepth 100000 in
theorem s287_1353 {j : Nat} {a0 : av} {a1 : av} {a2 : av} {a3 : av} {st : List av} (x y : Int32) (S : Sto) : run 287 j 1353 [a0, a1, a2, a3] (vI y :: vI x :: st) S = run 287 j 1354 [a0, a1, a2, a3] (vI (x + y) :: st) S := st_ rfl
set_option maxRecDepth 100000 in
theorem s287_1354 {j : Nat} {a0 : av} {a1 : av} {a2 : av} {a3 : av} {st : List av} (x : Int32) (q : Nat) (S : Sto) : run 287 j 1354 [a0, a1, a2, a3] (vI x :: vR 102 q :: st) S = if ib x (S.1 103 0 0).toNatClampNeg then run 287 j 1355 [a0, a1, a2, a3] (vI (S.1 102 q x.toNatClampNeg) :: st) S else none := st_itN rfl
set_option maxRecDepth 100000 in
theorem s287_1355 {j : Nat} {a1 : av} {a2 : av} {a3 : av} {st : List av} (q : Nat) (S : Sto) : run 287 j 1355 [vR 102 q, a1, a2, a3] st S = run 287 j 1356 [vR 102 q, a1, a2, a3] (vR 102 q :: st) S := st_ rfl
set_option maxRecDepth 100000 in
theorem s287_1356 {j : Nat} {a0 : av} {a1 : av} {a2 : av} {st : List av} (x : Int32) (S : Sto) : run 287 j 1356 [a0, a1, a2, vI x] st S = run 287 j 1357 [a0, a1, a2, vI x] (vI x :: st) S := st_ rfl
set_option maxRecDepth 100000 in
theorem s287_1357 {j : Nat} {a0 : av} {a1 : av} {a2 : av} {a3 : av} {st : List av} (S : Sto) : run 287 j 1357 [a0, a1, a2, a3] st S = run 287 j 1358 [a0, a1, a2, a3] (vI 2 :: st) S := st_ rfl
set_option maxRecDepth 100000 in
theorem s287_1358 {j : Nat} {a0 : av} {a1 : av} {a2 : av} {a3 : av} {st : List av} (x y : Int32) (S : Sto) : run 287 j 1358 [a0, a1, a2, a3] (vI y :: vI x :: st) S = run 287 j 1359 [a0, a1, a2, a3] (vI (x + y) :: st) S := st_ rfl
set_option maxRecDepth 100000 in
theorem s287_1359 {j : Nat} {a0 : av} {a1 : av} {a2 : av} {a3 : av} {st : List av} (x : Int32) (q : Nat) (S : Sto) : run 287 j 1359 [a0, a1, a2, a3] (vI x :: vR 102 q :: st) S = if ib x (S.1 103 0 0).toNatClampNeg then run 287 j 1360 [a0, a1, a2, a3] (vI (S.1 102 q x.toNatClampNeg) :: st) S else none := st_itN rfl
set_option maxRecDepth 100000 in
theorem s287_1360 {j : Nat} {a1 : av} {a2 : av} {a3 : av} {st : List av} (q : Nat) (S : Sto) : run 287 j 1360 [vR 102 q, a1, a2, a3] st S = run 287 j 1361 [vR 102 q, a1, a2, a3] (vR 102 q :: st) S := st_ rfl
set_option maxRecDepth 100000 in
theorem s287_1361 {j : Nat} {a0 : av} {a1 : av} {a2 : av} {st : List av} (x : Int32) (S : Sto) : run 287 j 1361 [a0, a1, a2, vI x] st S = run 287 j 1362 [a0, a1, a2, vI x] (vI x :: st) S := st_ rfl
set_option maxRecDepth 100000 in
theorem s287_1362 {j : Nat} {a0 : av} {a1 : av} {a2 : av} {a3 : av} {st : List av} (S : Sto) : run 287 j 1362 [a0, a1, a2, a3] st S = run 287 j 1363 [a0, a1, a2, a3] (vI 3 :: st) S := st_ rfl
set_option maxRecDepth 100000 in
theorem s287_1363 {j : Nat} {a0 : av} {a1 : av} {a2 : av} {a3 : av} {st : List av} (x y : Int32) (S : Sto) : run 287 j 1363 [a0, a1, a2, a3] (vI y :: vI x :: st) S = run 287 j 1364 [a0, a1, a2, a3] (vI (x + y) :: st) S := st_ rfl
set_option maxRecDepth 100000 in
theorem s287_1364 {j : Nat} {a0 : av} {a1 : av} {a2 : av} {a3 : av} {st : List av} (x : Int32) (q : Nat) (S : Sto) : run 287 j 1364 [a0, a1, a2, a3] (vI x :: vR 102 q :: st) S = if ib x (S.1 103 0 0).toNatClampNeg then run 287 j 1365 [a0, a1, a2, a3] (vI (S.1 102 q x.toNatClampNeg) :: st) S else none := st_itN rfl
set_option maxRecDepth 100000 in
theorem s287_1365 {j : Nat} {a1 : av} {a2 : av} {a3 : av} {st : List av} (q : Nat) (S : Sto) : run 287 j 1365 [vR 102 q, a1, a2, a3] st S = run 287 j 1366 [vR 102 q, a1, a2, a3] (vR 102 q :: st) S := st_ rfl
set_option maxRecDepth 100000 in
theorem s287_1366 {j : Nat} {a0 : av} {a1 : av} {a2 : av} {st : List av} (x : Int32) (S : Sto) : run 287 j 1366 [a0, a1, a2, vI x] st S = run 287 j 1367 [a0, a1, a2, vI x] (vI x :: st) S := st_ rfl
set_option maxRecDepth 100000 in
theorem s287_1367 {j : Nat} {a0 : av} {a1 : av} {a2 : av} {a3 : av} {st : List av} (S : Sto) : run 287 j 1367 [a0, a1, a2, a3] st S = run 287 j 1368 [a0, a1, a2, a3] (vI 4 :: st) S := st_ rfl
set_option maxRecDepth 100000 in
theorem s287_1368 {j : Nat} {a0 : av} {a1 : av} {a2 : av} {a3 : av} {st : List av} (x y : Int32) (S : Sto) : run 287 j 1368 [a0, a1, a2, a3] (vI y :: vI x :: st) S = run 287 j 1369 [a0, a1, a2, a3] (vI (x + y) :: st) S := st_ rfl
set_option maxRecDepth 100000 in
theorem s287_1369 {j : Nat} {a0 : av} {a1 : av} {a2 : av} {a3 : av} {st : List av} (x : Int32) (q : Nat) (S : Sto) : run 287 j 1369 [a0, a1, a2, a3] (vI x :: vR 102 q :: st) S = if ib x (S.1 103 0 0).toNatClampNeg then run 287 j 1370 [a0, a1, a2, a3] (vI (S.1 102 q x.toNatClampNeg) :: st) S else none := st_itN rfl
set_option maxRecDepth 100000 in
theorem s287_1370 {j : Nat} {a0 : av} {a1 : av} {a2 : av} {a3 : av} (x0 : Int32) (x1 : Int32) (x2 : Int32) (x3 : Int32) (x4 : Nat) (x5 : Int32) (S : Sto) : run 287 j 1370 [a0, a1, a2, a3] [vI x0, vI x1, vI x2, vI x3, vR 50 x4, vI x5] S = bV (call 261 0 [vR 50 x4, vI x3, vI x2, vI x1, vI x0] S) (fun v S' => run 287 j 1373 [a0, a1, a2, a3] (v :: [vI x5]) S') := st_cV rfl
set_option maxRecDepth 100000 in
theorem s287_1373 {j : Nat} {a0 : av} {a1 : av} {a2 : av} {a3 : av} {st : List av} (x y : Int32) (S : Sto) : run 287 j 1373 [a0, a1, a2, a3] (vI y :: vI x :: st) S = if x = y then run 287 j 1470 [a0, a1, a2, a3] st S else run 287 j 1376 [a0, a1, a2, a3] st S := st_ite rfl
set_option maxRecDepth 100000 in
theorem s287_1376 {j : Nat} {a0 : av} {a1 : av} {a2 : av} {a3 : av} {st : List av} (S : Sto) : run 287 j 1376 [a0, a1, a2, a3] st S = run 287 j 1377 [a0, a1, a2, a3] (vI 0 :: st) S := st_ rfl
set_option maxRecDepth 100000 in
theorem s287_1377 {j : Nat} {a0 : av} {a1 : av} {a2 : av} {a3 : av} (x : Int32) (S : Sto) : run 287 j 1377 [a0, a1, a2, a3] [vI x] S = if vp_nar .boolean x = x then some (some (vI x), S) else none := st_rb rfl
set_option maxRecDepth 100000 in
theorem s287_1378 {j : Nat} {a0 : av} {a2 : av} {a3 : av} {st : List av} (q : Nat) (S : Sto) : run 287 j 1378 [a0, vR 0 q, a2, a3] st S = run 287 j 1379 [a0, vR 0 q, a2, a3] (vR 0 q :: st) S := st_ rfl
set_option maxRecDepth 100000 in
theorem s287_1379 {j : Nat} {a1 : av} {a2 : av} {a3 : av} {st : List av} (q : Nat) (S : Sto) : run 287 j 1379 [vR 102 q, a1, a2, a3] st S = run 287 j 1380 [vR 102 q, a1, a2, a3] (vR 102 q :: st) S := st_ rfl
set_option maxRecDepth 100000 in
theorem s287_1380 {j : Nat} {a0 : av} {a1 : av} {a2 : av} {st : List av} (x : Int32) (S : Sto) : run 287 j 1380 [a0, a1, a2, vI x] st S = run 287 j 1381 [a0, a1, a2, vI x] (vI x :: st) S := st_ rfl
set_option maxRecDepth 100000 in
theorem s287_1381 {j : Nat} {a0 : av} {a1 : av} {a2 : av} {a3 : av} {st : List av} (S : Sto) : run 287 j 1381 [a0, a1, a2, a3] st S = run 287 j 1382 [a0, a1, a2, a3] (vI 1 :: st) S := st_ rfl
set_option maxRecDepth 100000 in
theorem s287_1382 {j : Nat} {a0 : av} {a1 : av} {a2 : av} {a3 : av} {st : List av} (x y : Int32) (S : Sto) : run 287 j 1382 [a0, a1, a2, a3] (vI y :: vI x :: st) S = run 287 j 1383 [a0, a1, a2, a3] (vI (x + y) :: st) S := st_ rfl
set_option maxRecDepth 100000 in
theorem s287_1383 {j : Nat} {a0 : av} {a1 : av} {a2 : av} {a3 : av} {st : List av} (x : Int32) (q : Nat) (S : Sto) : run 287 j 1383 [a0, a1, a2, a3] (vI x :: vR 102 q :: st) S = if ib x (S.1 103 0 0).toNatClampNeg then run 287 j 1384 [a0, a1, a2, a3] (vI (S.1 102 q x.toNatClampNeg) :: st) S else none := st_itN rfl
set_option maxRecDepth 100000 in
theorem s287_1384 {j : Nat} {a0 : av} {a1 : av} {a2 : av} {a3 : av} (x0 : Int32) (x1 : Nat) (S : Sto) : run 287 j 1384 [a0, a1, a2, a3] [vI x0, vR 0 x1] S = bV (call 132 0 [vR 0 x1, vI x0] S) (fun v S' => run 287 j 1387 [a0, a1, a2, a3] (v :: []) S') := st_cV rfl
set_option maxRecDepth 100000 in
theorem s287_1387 {j : Nat} {a0 : av} {a1 : av} {a3 : av} {st : List av} (q : Nat) (S : Sto) : run 287 j 1387 [a0, a1, vR 50 q, a3] st S = run 287 j 1388 [a0, a1, vR 50 q, a3] (vR 50 q :: st) S := st_ rfl
set_option maxRecDepth 100000 in
theorem s287_1388 {j : Nat} {a1 : av} {a2 : av} {a3 : av} {st : List av} (q : Nat) (S : Sto) : run 287 j 1388 [vR 102 q, a1, a2, a3] st S = run 287 j 1389 [vR 102 q, a1, a2, a3] (vR 102 q :: st) S := st_ rfl
set_option maxRecDepth 100000 in
theorem s287_1389 {j : Nat} {a0 : av} {a1 : av} {a2 : av} {st : List av} (x : Int32) (S : Sto) : run 287 j 1389 [a0, a1, a2, vI x] st S = run 287 j 1390 [a0, a1, a2, vI x] (vI x :: st) S := st_ rfl
set_option maxRecDepth 100000 in
theorem s287_1390 {j : Nat} {a0 : av} {a1 : av} {a2 : av} {a3 : av} {st : List av} (S : Sto) : run 287 j 1390 [a0, a1, a2, a3] st S = run 287 j 1391 [a0, a1, a2, a3] (vI 1 :: st) S := st_ rfl
set_option maxRecDepth 100000 in
theorem s287_1391 {j : Nat} {a0 : av} {a1 : av} {a2 : av} {a3 : av} {st : List av} (x y : Int32) (S : Sto) : run 287 j 1391 [a0, a1, a2, a3] (vI y :: vI x :: st) S = run 287 j 1392 [a0, a1, a2, a3] (vI (x + y) :: st) S := st_ rfl
set_option maxRecDepth 100000 in
theorem s287_1392 {j : Nat} {a0 : av} {a1 : av} {a2 : av} {a3 : av} {st : List av} (x : Int32) (q : Nat) (S : Sto) : run 287 j 1392 [a0, a1, a2, a3] (vI x :: vR 102 q :: st) S = if ib x (S.1 103 0 0).toNatClampNeg then run 287 j 1393 [a0, a1, a2, a3] (vI (S.1 102 q x.toNatClampNeg) :: st) S else none := st_itN rfl
set_option maxRecDepth 100000 in
theorem s287_1393 {j : Nat} {a0 : av} {a1 : av} {a2 : av} {a3 : av} (x0 : Int32) (x1 : Nat) (x2 : Int32) (S : Sto) : run 287 j 1393 [a0, a1, a2, a3] [vI x0, vR 50 x1, vI x2] S = bV (call 263 0 [vR 50 x1, vI x0] S) (fun v S' => run 287 j 1396 [a0, a1, a2, a3] (v :: [vI x2]) S') := st_cV rfl
set_option maxRecDepth 100000 in
theorem s287_1396 {j : Nat} {a0 : av} {a1 : av} {a2 : av} {a3 : av} {st : List av} (x y : Int32) (S : Sto) : run 287 j 1396 [a0, a1, a2, a3] (vI y :: vI x :: st) S = if x = y then run 287 j 1470 [a0, a1, a2, a3] st S else run 287 j 1399 [a0, a1, a2, a3] st S := st_ite rfl
set_option maxRecDepth 100000 in
theorem s287_1399 {j : Nat} {a0 : av} {a1 : av} {a2 : av} {a3 : av} {st : List av} (S : Sto) : run 287 j 1399 [a0, a1, a2, a3] st S = run 287 j 1400 [a0, a1, a2, a3] (vI 0 :: st) S := st_ rfl
set_option maxRecDepth 100000 in
theorem s287_1400 {j : Nat} {a0 : av} {a1 : av} {a2 : av} {a3 : av} (x : Int32) (S : Sto) : run 287 j 1400 [a0, a1, a2, a3] [vI x] S = if vp_nar .boolean x = x then some (some (vI x), S) else none := st_rb rfl
set_option maxRecDepth 100000 in
theorem s287_1401 {j : Nat} {a0 : av} {a2 : av} {a3 : av} {st : List av} (q : Nat) (S : Sto) : run 287 j 1401 [a0, vR 0 q, a2, a3] st S = run 287 j 1402 [a0, vR 0 q, a2, a3] (vR 0 q :: st) S := st_ rfl
set_option maxRecDepth 100000 in
theorem s287_1402 {j : Nat} {a1 : av} {a2 : av} {a3 : av} {st : List av} (q : Nat) (S : Sto) : run 287 j 1402 [vR 102 q, a1, a2, a3] st S = run 287 j 1403 [vR 102 q, a1, a2, a3] (vR 102 q :: st) S := st_ rfl
set_option maxRecDepth 100000 in
theorem s287_1403 {j : Nat} {a0 : av} {a1 : av} {a2 : av} {st : List av} (x : Int32) (S : Sto) : run 287 j 1403 [a0, a1, a2, vI x] st S = run 287 j 1404 [a0, a1, a2, vI x] (vI x :: st) S := st_ rfl
set_option maxRecDepth 100000 in
theorem s287_1404 {j : Nat} {a0 : av} {a1 : av} {a2 : av} {a3 : av} {st : List av} (S : Sto) : run 287 j 1404 [a0, a1, a2, a3] st S = run 287 j 1405 [a0, a1, a2, a3] (vI 1 :: st) S := st_ rfl
set_option maxRecDepth 100000 in
theorem s287_1405 {j : Nat} {a0 : av} {a1 : av} {a2 : av} {a3 : av} {st : List av} (x y : Int32) (S : Sto) : run 287 j 1405 [a0, a1, a2, a3] (vI y :: vI x :: st) S = run 287 j 1406 [a0, a1, a2, a3] (vI (x + y) :: st) S := st_ rfl
set_option maxRecDepth 100000 in
theorem s287_1406 {j : Nat} {a0 : av} {a1 : av} {a2 : av} {a3 : av} {st : List av} (x : Int32) (q : Nat) (S : Sto) : run 287 j 1406 [a0, a1, a2, a3] (vI x :: vR 102 q :: st) S = if ib x (S.1 103 0 0).toNatClampNeg then run 287 j 1407 [a0, a1, a2, a3] (vI (S.1 102 q x.toNatClampNeg) :: st) S else none := st_itN rfl
set_option maxRecDepth 100000 in
theorem s287_1407 {j : Nat} {a0 : av} {a1 : av} {a2 : av} {a3 : av} (x0 : Int32) (x1 : Nat) (S : Sto) : run 287 j 1407 [a0, a1, a2, a3] [vI x0, vR 0 x1] S = bV (call 133 0 [vR 0 x1, vI x0] S) (fun v S' => run 287 j 1410 [a0, a1, a2, a3] (v :: []) S') := st_cV rfl
set_option maxRecDepth 100000 in
theorem s287_1410 {j : Nat} {a0 : av} {a1 : av} {a3 : av} {st : List av} (q : Nat) (S : Sto) : run 287 j 1410 [a0, a1, vR 50 q, a3] st S = run 287 j 1411 [a0, a1, vR 50 q, a3] (vR 50 q :: st) S := st_ rfl
set_option maxRecDepth 100000 in
theorem s287_1411 {j : Nat} {a1 : av} {a2 : av} {a3 : av} {st : List av} (q : Nat) (S : Sto) : run 287 j 1411 [vR 102 q, a1, a2, a3] st S = run 287 j 1412 [vR 102 q, a1, a2, a3] (vR 102 q :: st) S := st_ rfl
set_option maxRecDepth 100000 in
theorem s287_1412 {j : Nat} {a0 : av} {a1 : av} {a2 : av} {st : List av} (x : Int32) (S : Sto) : run 287 j 1412 [a0, a1, a2, vI x] st S = run 287 j 1413 [a0, a1, a2, vI x] (vI x :: st) S := st_ rfl
set_option maxRecDepth 100000 in
theorem s287_1413 {j : Nat} {a0 : av} {a1 : av} {a2 : av} {a3 : av} {st : List av} (S : Sto) : run 287 j 1413 [a0, a1, a2, a3] st S = run 287 j 1414 [a0, a1, a2, a3] (vI 1 :: st) S := st_ rfl
set_option maxRecDepth 100000 in
theorem s287_1414 {j : Nat} {a0 : av} {a1 : av} {a2 : av} {a3 : av} {st : List av} (x y : Int32) (S : Sto) : run 287 j 1414 [a0, a1, a2, a3] (vI y :: vI x :: st) S = run 287 j 1415 [a0, a1, a2, a3] (vI (x + y) :: st) S := st_ rfl
set_option maxRecDepth 100000 in
theorem s287_1415 {j : Nat} {a0 : av} {a1 : av} {a2 : av} {a3 : av} {st : List av} (x : Int32) (q : Nat) (S : Sto) : run 287 j 1415 [a0, a1, a2, a3] (vI x :: vR 102 q :: st) S = if ib x (S.1 103 0 0).toNatClampNeg then run 287 j 1416 [a0, a1, a2, a3] (vI (S.1 102 q x.toNatClampNeg) :: st) S else none := st_itN rfl
set_option maxRecDepth 100000 in
theorem s287_1416 {j : Nat} {a0 : av} {a1 : av} {a2 : av} {a3 : av} (x0 : Int32) (x1 : Nat) (x2 : Int32) (S : Sto) : run 287 j 1416 [a0, a1, a2, a3] [vI x0, vR 50 x1, vI x2] S = bV (call 265 0 [vR 50 x1, vI x0] S) (fun v S' => run 287 j 1419 [a0, a1, a2, a3] (v :: [vI x2]) S') := st_cV rfl
set_option maxRecDepth 100000 in
theorem s287_1419 {j : Nat} {a0 : av} {a1 : av} {a2 : av} {a3 : av} {st : List av} (x y : Int32) (S : Sto) : run 287 j 1419 [a0, a1, a2, a3] (vI y :: vI x :: st) S = if x = y then run 287 j 1470 [a0, a1, a2, a3] st S else run 287 j 1422 [a0, a1, a2, a3] st S := st_ite rfl
set_option maxRecDepth 100000 in
theorem s287_1422 {j : Nat} {a0 : av} {a1 : av} {a2 : av} {a3 : av} {st : List av} (S : Sto) : run 287 j 1422 [a0, a1, a2, a3] st S = run 287 j 1423 [a0, a1, a2, a3] (vI 0 :: st) S := st_ rfl
set_option maxRecDepth 100000 in
theorem s287_1423 {j : Nat} {a0 : av} {a1 : av} {a2 : av} {a3 : av} (x : Int32) (S : Sto) : run 287 j 1423 [a0, a1, a2, a3] [vI x] S = if vp_nar .boolean x = x then some (some (vI x), S) else none := st_rb rfl
set_option maxRecDepth 100000 in
theorem s287_1424 {j : Nat} {a0 : av} {a2 : av} {a3 : av} {st : List av} (q : Nat) (S : Sto) : run 287 j 1424 [a0, vR 0 q, a2, a3] st S = run 287 j 1425 [a0, vR 0 q, a2, a3] (vR 0 q :: st) S := st_ rfl
set_option maxRecDepth 100000 in
theorem s287_1425 {j : Nat} {a1 : av} {a2 : av} {a3 : av} {st : List av} (q : Nat) (S : Sto) : run 287 j 1425 [vR 102 q, a1, a2, a3] st S = run 287 j 1426 [vR 102 q, a1, a2, a3] (vR 102 q :: st) S := st_ rfl
set_option maxRecDepth 100000 in
theorem s287_1426 {j : Nat} {a0 : av} {a1 : av} {a2 : av} {st : List av} (x : Int32) (S : Sto) : run 287 j 1426 [a0, a1, a2, vI x] st S = run 287 j 1427 [a0, a1, a2, vI x] (vI x :: st) S := st_ rfl
set_option maxRecDepth 100000 in
theorem s287_1427 {j : Nat} {a0 : av} {a1 : av} {a2 : av} {a3 : av} {st : List av} (S : Sto) : run 287 j 1427 [a0, a1, a2, a3] st S = run 287 j 1428 [a0, a1, a2, a3] (vI 1 :: st) S := st_ rfl
set_option maxRecDepth 100000 in
theorem s287_1428 {j : Nat} {a0 : av} {a1 : av} {a2 : av} {a3 : av} {st : List av} (x y : Int32) (S : Sto) : run 287 j 1428 [a0, a1, a2, a3] (vI y :: vI x :: st) S = run 287 j 1429 [a0, a1, a2, a3] (vI (x + y) :: st) S := st_ rfl
set_option maxRecDepth 100000 in
theorem s287_1429 {j : Nat} {a0 : av} {a1 : av} {a2 : av} {a3 : av} {st : List av} (x : Int32) (q : Nat) (S : Sto) : run 287 j 1429 [a0, a1, a2, a3] (vI x :: vR 102 q :: st) S = if ib x (S.1 103 0 0).toNatClampNeg then run 287 j 1430 [a0, a1, a2, a3] (vI (S.1 102 q x.toNatClampNeg) :: st) S else none := st_itN rfl
set_option maxRecDepth 100000 in
theorem s287_1430 {j : Nat} {a0 : av} {a1 : av} {a2 : av} {a3 : av} (x0 : Int32) (x1 : Nat) (S : Sto) : run 287 j 1430 [a0, a1, a2, a3] [vI x0, vR 0 x1] S = bV (call 134 0 [vR 0 x1, vI x0] S) (fun v S' => run 287 j 1433 [a0, a1, a2, a3] (v :: []) S') := st_cV rfl
set_option maxRecDepth 100000 in
theorem s287_1433 {j : Nat} {a0 : av} {a1 : av} {a3 : av} {st : List av} (q : Nat) (S : Sto) : run 287 j 1433 [a0, a1, vR 50 q, a3] st S = run 287 j 1434 [a0, a1, vR 50 q, a3] (vR 50 q :: st) S := st_ rfl
set_option maxRecDepth 100000 in
theorem s287_1434 {j : Nat} {a1 : av} {a2 : av} {a3 : av} {st : List av} (q : Nat) (S : Sto) : run 287 j 1434 [vR 102 q, a1, a2, a3] st S = run 287 j 1435 [vR 102 q, a1, a2, a3] (vR 102 q :: st) S := st_ rfl
set_option maxRecDepth 100000 in
theorem s287_1435 {j : Nat} {a0 : av} {a1 : av} {a2 : av} {st : List av} (x : Int32) (S : Sto) : run 287 j 1435 [a0, a1, a2, vI x] st S = run 287 j 1436 [a0, a1, a2, vI x] (vI x :: st) S := st_ rfl
set_option maxRecDepth 100000 in
theorem s287_1436 {j : Nat} {a0 : av} {a1 : av} {a2 : av} {a3 : av} {st : List av} (S : Sto) : run 287 j 1436 [a0, a1, a2, a3] st S = run 287 j 1437 [a0, a1, a2, a3] (vI 1 :: st) S := st_ rfl
set_option maxRecDepth 100000 in
theorem s287_1437 {j : Nat} {a0 : av} {a1 : av} {a2 : av} {a3 : av} {st : List av} (x y : Int32) (S : Sto) : run 287 j 1437 [a0, a1, a2, a3] (vI y :: vI x :: st) S = run 287 j 1438 [a0, a1, a2, a3] (vI (x + y) :: st) S := st_ rfl
set_option maxRecDepth 100000 in
theorem s287_1438 {j : Nat} {a0 : av} {a1 : av} {a2 : av} {a3 : av} {st : List av} (x : Int32) (q : Nat) (S : Sto) : run 287 j 1438 [a0, a1, a2, a3] (vI x :: vR 102 q :: st) S = if ib x (S.1 103 0 0).toNatClampNeg then run 287 j 1439 [a0, a1, a2, a3] (vI (S.1 102 q x.toNatClampNeg) :: st) S else none := st_itN rfl
set_option maxRecDepth 100000 in
theorem s287_1439 {j : Nat} {a0 : av} {a1 : av} {a2 : av} {a3 : av} (x0 : Int32) (x1 : Nat) (x2 : Int32) (S : Sto) : run 287 j 1439 [a0, a1, a2, a3] [vI x0, vR 50 x1, vI x2] S = bV (call 266 0 [vR 50 x1, vI x0] S) (fun v S' => run 287 j 1442 [a0, a1, a2, a3] (v :: [vI x2]) S') := st_cV rfl
set_option maxRecDepth 100000 in
theorem s287_1442 {j : Nat} {a0 : av} {a1 : av} {a2 : av} {a3 : av} {st : List av} (x y : Int32) (S : Sto) : run 287 j 1442 [a0, a1, a2, a3] (vI y :: vI x :: st) S = if x = y then run 287 j 1470 [a0, a1, a2, a3] st S else run 287 j 1445 [a0, a1, a2, a3] st S := st_ite rfl
set_option maxRecDepth 100000 in
theorem s287_1445 {j : Nat} {a0 : av} {a1 : av} {a2 : av} {a3 : av} {st : List av} (S : Sto) : run 287 j 1445 [a0, a1, a2, a3] st S = run 287 j 1446 [a0, a1, a2, a3] (vI 0 :: st) S := st_ rfl
set_option maxRecDepth 100000 in
theorem s287_1446 {j : Nat} {a0 : av} {a1 : av} {a2 : av} {a3 : av} (x : Int32) (S : Sto) : run 287 j 1446 [a0, a1, a2, a3] [vI x] S = if vp_nar .boolean x = x then some (some (vI x), S) else none := st_rb rfl
set_option maxRecDepth 100000 in
theorem s287_1447 {j : Nat} {a0 : av} {a2 : av} {a3 : av} {st : List av} (q : Nat) (S : Sto) : run 287 j 1447 [a0, vR 0 q, a2, a3] st S = run 287 j 1448 [a0, vR 0 q, a2, a3] (vR 0 q :: st) S := st_ rfl
set_option maxRecDepth 100000 in
theorem s287_1448 {j : Nat} {a1 : av} {a2 : av} {a3 : av} {st : List av} (q : Nat) (S : Sto) : run 287 j 1448 [vR 102 q, a1, a2, a3] st S = run 287 j 1449 [vR 102 q, a1, a2, a3] (vR 102 q :: st) S := st_ rfl
set_option maxRecDepth 100000 in
theorem s287_1449 {j : Nat} {a0 : av} {a1 : av} {a2 : av} {st : List av} (x : Int32) (S : Sto) : run 287 j 1449 [a0, a1, a2, vI x] st S = run 287 j 1450 [a0, a1, a2, vI x] (vI x :: st) S := st_ rfl
set_option maxRecDepth 100000 in
theorem s287_1450 {j : Nat} {a0 : av} {a1 : av} {a2 : av} {a3 : av} {st : List av} (S : Sto) : run 287 j 1450 [a0, a1, a2, a3] st S = run 287 j 1451 [a0, a1, a2, a3] (vI 1 :: st) S := st_ rfl
set_option maxRecDepth 100000 in
theorem s287_1451 {j : Nat} {a0 : av} {a1 : av} {a2 : av} {a3 : av} {st : List av} (x y : Int32) (S : Sto) : run 287 j 1451 [a0, a1, a2, a3] (vI y :: vI x :: st) S = run 287 j 1452 [a0, a1, a2, a3] (vI (x + y) :: st) S := st_ rfl
set_option maxRecDepth 100000 in
theorem s287_1452 {j : Nat} {a0 : av} {a1 : av} {a2 : av} {a3 : av} {st : List av} (x : Int32) (q : Nat) (S : Sto) : run 287 j 1452 [a0, a1, a2, a3] (vI x :: vR 102 q :: st) S = if ib x (S.1 103 0 0).toNatClampNeg then run 287 j 1453 [a0, a1, a2, a3] (vI (S.1 102 q x.toNatClampNeg) :: st) S else none := st_itN rfl
set_option maxRecDepth 100000 in
theorem s287_1453 {j : Nat} {a0 : av} {a1 : av} {a2 : av} {a3 : av} (x0 : Int32) (x1 : Nat) (S : Sto) : run 287 j 1453 [a0, a1, a2, a3] [vI x0, vR 0 x1] S = bV (call 135 0 [vR 0 x1, vI x0] S) (fun v S' => run 287 j 1456 [a0, a1, a2, a3] (v :: []) S') := st_cV rfl
set_option maxRecDepth 100000 in
theorem s287_1456 {j : Nat} {a0 : av} {a1 : av} {a3 : av} {st : List av} (q : Nat) (S : Sto) : run 287 j 1456 [a0, a1, vR 50 q, a3] st S = run 287 j 1457 [a0, a1, vR 50 q, a3] (vR 50 q :: st) S := st_ rfl
set_option maxRecDepth 100000 in
theorem s287_1457 {j : Nat} {a1 : av} {a2 : av} {a3 : av} {st : List av} (q : Nat) (S : Sto) : run 287 j 1457 [vR 102 q, a1, a2, a3] st S = run 287 j 1458 [vR 102 q, a1, a2, a3] (vR 102 q :: st) S := st_ rfl
set_option maxRecDepth 100000 in
theorem s287_1458 {j : Nat} {a0 : av} {a1 : av} {a2 : av} {st : List av} (x : Int32) (S : Sto) : run 287 j 1458 [a0, a1, a2, vI x] st S = run 287 j 1459 [a0, a1, a2, vI x] (vI x :: st) S := st_ rfl
set_option maxRecDepth 100000 in
theorem s287_1459 {j : Nat} {a0 : av} {a1 : av} {a2 : av} {a3 : av} {st : List av} (S : Sto) : run 287 j 1459 [a0, a1, a2, a3] st S = run 287 j 1460 [a0, a1, a2, a3] (vI 1 :: st) S := st_ rfl
set_option maxRecDepth 100000 in
theorem s287_1460 {j : Nat} {a0 : av} {a1 : av} {a2 : av} {a3 : av} {st : List av} (x y : Int32) (S : Sto) : run 287 j 1460 [a0, a1, a2, a3] (vI y :: vI x :: st) S = run 287 j 1461 [a0, a1, a2, a3] (vI (x + y) :: st) S := st_ rfl
set_option maxRecDepth 100000 in
theorem s287_1461 {j : Nat} {a0 : av} {a1 : av} {a2 : av} {a3 : av} {st : List av} (x : Int32) (q : Nat) (S : Sto) : run 287 j 1461 [a0, a1, a2, a3] (vI x :: vR 102 q :: st) S = if ib x (S.1 103 0 0).toNatClampNeg then run 287 j 1462 [a0, a1, a2, a3] (vI (S.1 102 q x.toNatClampNeg) :: st) S else none := st_itN rfl
set_option maxRecDepth 100000 in
theorem s287_1462 {j : Nat} {a0 : av} {a1 : av} {a2 : av} {a3 : av} (x0 : Int32) (x1 : Nat) (x2 : Int32) (S : Sto) : run 287 j 1462 [a0, a1, a2, a3] [vI x0, vR 50 x1, vI x2] S = bV (call 269 0 [vR 50 x1, vI x0] S) (fun v S' => run 287 j 1465 [a0, a1, a2, a3] (v :: [vI x2]) S') := st_cV rfl
set_option maxRecDepth 100000 in
theorem s287_1465 {j : Nat} {a0 : av} {a1 : av} {a2 : av} {a3 : av} {st : List av} (x y : Int32) (S : Sto) : run 287 j 1465 [a0, a1, a2, a3] (vI y :: vI x :: st) S = if x = y then run 287 j 1470 [a0, a1, a2, a3] st S else run 287 j 1468 [a0, a1, a2, a3] st S := st_ite rfl
set_option maxRecDepth 100000 in
theorem s287_1468 {j : Nat} {a0 : av} {a1 : av} {a2 : av} {a3 : av} {st : List av} (S : Sto) : run 287 j 1468 [a0, a1, a2, a3] st S = run 287 j 1469 [a0, a1, a2, a3] (vI 0 :: st) S := st_ rfl
set_option maxRecDepth 100000 in
theorem s287_1469 {j : Nat} {a0 : av} {a1 : av} {a2 : av} {a3 : av} (x : Int32) (S : Sto) : run 287 j 1469 [a0, a1, a2, a3] [vI x] S = if vp_nar .boolean x = x then some (some (vI x), S) else none := st_rb rfl
set_option maxRecDepth 100000 in
theorem s287_1470 {j : Nat} {a0 : av} {a1 : av} {a2 : av} {st : List av} (x : Int32) (S : Sto) : run 287 j 1470 [a0, a1, a2, vI x] st S = run 287 j 1473 [a0, a1, a2, vI (x + 6)] st S := st_ rfl
set_option maxRecDepth 100000 in
theorem s287_1473 {j : Nat} {a0 : av} {a1 : av} {a2 : av} {a3 : av} {st : List av} (S : Sto) : run 287 j 1473 [a0, a1, a2, a3] st S = run 287 j 18 [a0, a1, a2, a3] st S := st_ rfl
set_option maxRecDepth 100000 in
theorem s287_1476 {j : Nat} {a0 : av} {a1 : av} {a2 : av} {a3 : av} {st : List av} (S : Sto) : run 287 j 1476 [a0, a1, a2, a3] st S = run 287 j 1477 [a0, a1, a2, a3] (vI 1 :: st) S := st_ rfl
set_option maxRecDepth 100000 in
theorem s287_1477 {j : Nat} {a0 : av} {a1 : av} {a2 : av} {a3 : av} (x : Int32) (S : Sto) : run 287 j 1477 [a0, a1, a2, a3] [vI x] S = if vp_nar .boolean x = x then some (some (vI x), S) else none := st_rb rfl
