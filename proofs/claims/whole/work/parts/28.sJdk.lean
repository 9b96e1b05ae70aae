/-! 270 Int_bitCount -/
theorem s270_0 {j : Nat} {st : List av} (x : Int32) (S : Sto) : run 270 j 0 [vI x] st S = run 270 j 1 [vI x] (vI x :: st) S := st_ rfl
theorem s270_1 {j : Nat} {st : List av} (x : Int32) (S : Sto) : run 270 j 1 [vI x] st S = run 270 j 2 [vI x] (vI x :: st) S := st_ rfl
theorem s270_2 {j : Nat} {a0 : av} {st : List av} (S : Sto) : run 270 j 2 [a0] st S = run 270 j 3 [a0] (vI 1 :: st) S := st_ rfl
theorem s270_3 {j : Nat} {a0 : av} {st : List av} (x y : Int32) (S : Sto) : run 270 j 3 [a0] (vI y :: vI x :: st) S = run 270 j 4 [a0] (vI ((x.toUInt32 >>> (y.toUInt32 &&& Int32.toUInt32 31)).toInt32) :: st) S := st_ rfl
theorem s270_4 {j : Nat} {a0 : av} {st : List av} (S : Sto) : run 270 j 4 [a0] st S = run 270 j 7 [a0] (vI 1431655765 :: st) S := st_ rfl
theorem s270_7 {j : Nat} {a0 : av} {st : List av} (x y : Int32) (S : Sto) : run 270 j 7 [a0] (vI y :: vI x :: st) S = run 270 j 8 [a0] (vI (x &&& y) :: st) S := st_ rfl
theorem s270_8 {j : Nat} {a0 : av} {st : List av} (x y : Int32) (S : Sto) : run 270 j 8 [a0] (vI y :: vI x :: st) S = run 270 j 9 [a0] (vI (x - y) :: st) S := st_ rfl
theorem s270_9 {j : Nat} {a0 : av} {st : List av} (x : Int32) (S : Sto) : run 270 j 9 [a0] (vI x :: st) S = run 270 j 10 [vI x] st S := st_ rfl
theorem s270_10 {j : Nat} {st : List av} (x : Int32) (S : Sto) : run 270 j 10 [vI x] st S = run 270 j 11 [vI x] (vI x :: st) S := st_ rfl
theorem s270_11 {j : Nat} {a0 : av} {st : List av} (S : Sto) : run 270 j 11 [a0] st S = run 270 j 14 [a0] (vI 858993459 :: st) S := st_ rfl
theorem s270_14 {j : Nat} {a0 : av} {st : List av} (x y : Int32) (S : Sto) : run 270 j 14 [a0] (vI y :: vI x :: st) S = run 270 j 15 [a0] (vI (x &&& y) :: st) S := st_ rfl
theorem s270_15 {j : Nat} {st : List av} (x : Int32) (S : Sto) : run 270 j 15 [vI x] st S = run 270 j 16 [vI x] (vI x :: st) S := st_ rfl
theorem s270_16 {j : Nat} {a0 : av} {st : List av} (S : Sto) : run 270 j 16 [a0] st S = run 270 j 17 [a0] (vI 2 :: st) S := st_ rfl
theorem s270_17 {j : Nat} {a0 : av} {st : List av} (x y : Int32) (S : Sto) : run 270 j 17 [a0] (vI y :: vI x :: st) S = run 270 j 18 [a0] (vI ((x.toUInt32 >>> (y.toUInt32 &&& Int32.toUInt32 31)).toInt32) :: st) S := st_ rfl
theorem s270_18 {j : Nat} {a0 : av} {st : List av} (S : Sto) : run 270 j 18 [a0] st S = run 270 j 21 [a0] (vI 858993459 :: st) S := st_ rfl
theorem s270_21 {j : Nat} {a0 : av} {st : List av} (x y : Int32) (S : Sto) : run 270 j 21 [a0] (vI y :: vI x :: st) S = run 270 j 22 [a0] (vI (x &&& y) :: st) S := st_ rfl
theorem s270_22 {j : Nat} {a0 : av} {st : List av} (x y : Int32) (S : Sto) : run 270 j 22 [a0] (vI y :: vI x :: st) S = run 270 j 23 [a0] (vI (x + y) :: st) S := st_ rfl
theorem s270_23 {j : Nat} {a0 : av} {st : List av} (x : Int32) (S : Sto) : run 270 j 23 [a0] (vI x :: st) S = run 270 j 24 [vI x] st S := st_ rfl
theorem s270_24 {j : Nat} {st : List av} (x : Int32) (S : Sto) : run 270 j 24 [vI x] st S = run 270 j 25 [vI x] (vI x :: st) S := st_ rfl
theorem s270_25 {j : Nat} {st : List av} (x : Int32) (S : Sto) : run 270 j 25 [vI x] st S = run 270 j 26 [vI x] (vI x :: st) S := st_ rfl
theorem s270_26 {j : Nat} {a0 : av} {st : List av} (S : Sto) : run 270 j 26 [a0] st S = run 270 j 27 [a0] (vI 4 :: st) S := st_ rfl
theorem s270_27 {j : Nat} {a0 : av} {st : List av} (x y : Int32) (S : Sto) : run 270 j 27 [a0] (vI y :: vI x :: st) S = run 270 j 28 [a0] (vI ((x.toUInt32 >>> (y.toUInt32 &&& Int32.toUInt32 31)).toInt32) :: st) S := st_ rfl
theorem s270_28 {j : Nat} {a0 : av} {st : List av} (x y : Int32) (S : Sto) : run 270 j 28 [a0] (vI y :: vI x :: st) S = run 270 j 29 [a0] (vI (x + y) :: st) S := st_ rfl
theorem s270_29 {j : Nat} {a0 : av} {st : List av} (S : Sto) : run 270 j 29 [a0] st S = run 270 j 32 [a0] (vI 252645135 :: st) S := st_ rfl
theorem s270_32 {j : Nat} {a0 : av} {st : List av} (x y : Int32) (S : Sto) : run 270 j 32 [a0] (vI y :: vI x :: st) S = run 270 j 33 [a0] (vI (x &&& y) :: st) S := st_ rfl
theorem s270_33 {j : Nat} {a0 : av} {st : List av} (x : Int32) (S : Sto) : run 270 j 33 [a0] (vI x :: st) S = run 270 j 34 [vI x] st S := st_ rfl
theorem s270_34 {j : Nat} {st : List av} (x : Int32) (S : Sto) : run 270 j 34 [vI x] st S = run 270 j 35 [vI x] (vI x :: st) S := st_ rfl
theorem s270_35 {j : Nat} {st : List av} (x : Int32) (S : Sto) : run 270 j 35 [vI x] st S = run 270 j 36 [vI x] (vI x :: st) S := st_ rfl
theorem s270_36 {j : Nat} {a0 : av} {st : List av} (S : Sto) : run 270 j 36 [a0] st S = run 270 j 38 [a0] (vI 8 :: st) S := st_ rfl
theorem s270_38 {j : Nat} {a0 : av} {st : List av} (x y : Int32) (S : Sto) : run 270 j 38 [a0] (vI y :: vI x :: st) S = run 270 j 39 [a0] (vI ((x.toUInt32 >>> (y.toUInt32 &&& Int32.toUInt32 31)).toInt32) :: st) S := st_ rfl
theorem s270_39 {j : Nat} {a0 : av} {st : List av} (x y : Int32) (S : Sto) : run 270 j 39 [a0] (vI y :: vI x :: st) S = run 270 j 40 [a0] (vI (x + y) :: st) S := st_ rfl
theorem s270_40 {j : Nat} {a0 : av} {st : List av} (x : Int32) (S : Sto) : run 270 j 40 [a0] (vI x :: st) S = run 270 j 41 [vI x] st S := st_ rfl
theorem s270_41 {j : Nat} {st : List av} (x : Int32) (S : Sto) : run 270 j 41 [vI x] st S = run 270 j 42 [vI x] (vI x :: st) S := st_ rfl
theorem s270_42 {j : Nat} {st : List av} (x : Int32) (S : Sto) : run 270 j 42 [vI x] st S = run 270 j 43 [vI x] (vI x :: st) S := st_ rfl
theorem s270_43 {j : Nat} {a0 : av} {st : List av} (S : Sto) : run 270 j 43 [a0] st S = run 270 j 45 [a0] (vI 16 :: st) S := st_ rfl
theorem s270_45 {j : Nat} {a0 : av} {st : List av} (x y : Int32) (S : Sto) : run 270 j 45 [a0] (vI y :: vI x :: st) S = run 270 j 46 [a0] (vI ((x.toUInt32 >>> (y.toUInt32 &&& Int32.toUInt32 31)).toInt32) :: st) S := st_ rfl
theorem s270_46 {j : Nat} {a0 : av} {st : List av} (x y : Int32) (S : Sto) : run 270 j 46 [a0] (vI y :: vI x :: st) S = run 270 j 47 [a0] (vI (x + y) :: st) S := st_ rfl
theorem s270_47 {j : Nat} {a0 : av} {st : List av} (x : Int32) (S : Sto) : run 270 j 47 [a0] (vI x :: st) S = run 270 j 48 [vI x] st S := st_ rfl
theorem s270_48 {j : Nat} {st : List av} (x : Int32) (S : Sto) : run 270 j 48 [vI x] st S = run 270 j 49 [vI x] (vI x :: st) S := st_ rfl
theorem s270_49 {j : Nat} {a0 : av} {st : List av} (S : Sto) : run 270 j 49 [a0] st S = run 270 j 51 [a0] (vI 63 :: st) S := st_ rfl
theorem s270_51 {j : Nat} {a0 : av} {st : List av} (x y : Int32) (S : Sto) : run 270 j 51 [a0] (vI y :: vI x :: st) S = run 270 j 52 [a0] (vI (x &&& y) :: st) S := st_ rfl
theorem s270_52 {j : Nat} {a0 : av} (x : Int32) (S : Sto) : run 270 j 52 [a0] [vI x] S = some (some (vI x), S) := st_r rfl
/-! 271 Int_numberOfTrailingZeros -/
theorem s271_0 {j : Nat} {a1 : av} {st : List av} (x : Int32) (S : Sto) : run 271 j 0 [vI x, a1] st S = run 271 j 1 [vI x, a1] (vI x :: st) S := st_ rfl
theorem s271_1 {j : Nat} {a0 : av} {a1 : av} {st : List av} (S : Sto) : run 271 j 1 [a0, a1] st S = run 271 j 2 [a0, a1] (vI (-1) :: st) S := st_ rfl
theorem s271_2 {j : Nat} {a0 : av} {a1 : av} {st : List av} (x y : Int32) (S : Sto) : run 271 j 2 [a0, a1] (vI y :: vI x :: st) S = run 271 j 3 [a0, a1] (vI (x ^^^ y) :: st) S := st_ rfl
theorem s271_3 {j : Nat} {a1 : av} {st : List av} (x : Int32) (S : Sto) : run 271 j 3 [vI x, a1] st S = run 271 j 4 [vI x, a1] (vI x :: st) S := st_ rfl
theorem s271_4 {j : Nat} {a0 : av} {a1 : av} {st : List av} (S : Sto) : run 271 j 4 [a0, a1] st S = run 271 j 5 [a0, a1] (vI 1 :: st) S := st_ rfl
theorem s271_5 {j : Nat} {a0 : av} {a1 : av} {st : List av} (x y : Int32) (S : Sto) : run 271 j 5 [a0, a1] (vI y :: vI x :: st) S = run 271 j 6 [a0, a1] (vI (x - y) :: st) S := st_ rfl
theorem s271_6 {j : Nat} {a0 : av} {a1 : av} {st : List av} (x y : Int32) (S : Sto) : run 271 j 6 [a0, a1] (vI y :: vI x :: st) S = run 271 j 7 [a0, a1] (vI (x &&& y) :: st) S := st_ rfl
theorem s271_7 {j : Nat} {a0 : av} {a1 : av} {st : List av} (x : Int32) (S : Sto) : run 271 j 7 [a0, a1] (vI x :: st) S = run 271 j 8 [vI x, a1] st S := st_ rfl
theorem s271_8 {j : Nat} {a1 : av} {st : List av} (x : Int32) (S : Sto) : run 271 j 8 [vI x, a1] st S = run 271 j 9 [vI x, a1] (vI x :: st) S := st_ rfl
theorem s271_9 {j : Nat} {a0 : av} {a1 : av} {st : List av} (x : Int32) (S : Sto) : run 271 j 9 [a0, a1] (vI x :: st) S = if 0 < x then run 271 j 17 [a0, a1] st S else run 271 j 12 [a0, a1] st S := st_ite rfl
theorem s271_12 {j : Nat} {a1 : av} {st : List av} (x : Int32) (S : Sto) : run 271 j 12 [vI x, a1] st S = run 271 j 13 [vI x, a1] (vI x :: st) S := st_ rfl
theorem s271_13 {j : Nat} {a0 : av} {a1 : av} {st : List av} (S : Sto) : run 271 j 13 [a0, a1] st S = run 271 j 15 [a0, a1] (vI 32 :: st) S := st_ rfl
theorem s271_15 {j : Nat} {a0 : av} {a1 : av} {st : List av} (x y : Int32) (S : Sto) : run 271 j 15 [a0, a1] (vI y :: vI x :: st) S = run 271 j 16 [a0, a1] (vI (x &&& y) :: st) S := st_ rfl
theorem s271_16 {j : Nat} {a0 : av} {a1 : av} (x : Int32) (S : Sto) : run 271 j 16 [a0, a1] [vI x] S = some (some (vI x), S) := st_r rfl
theorem s271_17 {j : Nat} {a0 : av} {a1 : av} {st : List av} (S : Sto) : run 271 j 17 [a0, a1] st S = run 271 j 18 [a0, a1] (vI 1 :: st) S := st_ rfl
theorem s271_18 {j : Nat} {a0 : av} {a1 : av} {st : List av} (x : Int32) (S : Sto) : run 271 j 18 [a0, a1] (vI x :: st) S = run 271 j 19 [a0, vI x] st S := st_ rfl
theorem s271_19 {j : Nat} {a1 : av} {st : List av} (x : Int32) (S : Sto) : run 271 j 19 [vI x, a1] st S = run 271 j 20 [vI x, a1] (vI x :: st) S := st_ rfl
theorem s271_20 {j : Nat} {a0 : av} {a1 : av} {st : List av} (S : Sto) : run 271 j 20 [a0, a1] st S = run 271 j 23 [a0, a1] (vI 65536 :: st) S := st_ rfl
theorem s271_23 {j : Nat} {a0 : av} {a1 : av} {st : List av} (x y : Int32) (S : Sto) : run 271 j 23 [a0, a1] (vI y :: vI x :: st) S = if x ≤ y then run 271 j 34 [a0, a1] st S else run 271 j 26 [a0, a1] st S := st_ite rfl
theorem s271_26 {j : Nat} {a0 : av} {st : List av} (x : Int32) (S : Sto) : run 271 j 26 [a0, vI x] st S = run 271 j 29 [a0, vI (x + 16)] st S := st_ rfl
theorem s271_29 {j : Nat} {a1 : av} {st : List av} (x : Int32) (S : Sto) : run 271 j 29 [vI x, a1] st S = run 271 j 30 [vI x, a1] (vI x :: st) S := st_ rfl
theorem s271_30 {j : Nat} {a0 : av} {a1 : av} {st : List av} (S : Sto) : run 271 j 30 [a0, a1] st S = run 271 j 32 [a0, a1] (vI 16 :: st) S := st_ rfl
theorem s271_32 {j : Nat} {a0 : av} {a1 : av} {st : List av} (x y : Int32) (S : Sto) : run 271 j 32 [a0, a1] (vI y :: vI x :: st) S = run 271 j 33 [a0, a1] (vI ((x.toUInt32 >>> (y.toUInt32 &&& Int32.toUInt32 31)).toInt32) :: st) S := st_ rfl
theorem s271_33 {j : Nat} {a0 : av} {a1 : av} {st : List av} (x : Int32) (S : Sto) : run 271 j 33 [a0, a1] (vI x :: st) S = run 271 j 34 [vI x, a1] st S := st_ rfl
theorem s271_34 {j : Nat} {a1 : av} {st : List av} (x : Int32) (S : Sto) : run 271 j 34 [vI x, a1] st S = run 271 j 35 [vI x, a1] (vI x :: st) S := st_ rfl
theorem s271_35 {j : Nat} {a0 : av} {a1 : av} {st : List av} (S : Sto) : run 271 j 35 [a0, a1] st S = run 271 j 38 [a0, a1] (vI 256 :: st) S := st_ rfl
theorem s271_38 {j : Nat} {a0 : av} {a1 : av} {st : List av} (x y : Int32) (S : Sto) : run 271 j 38 [a0, a1] (vI y :: vI x :: st) S = if x ≤ y then run 271 j 49 [a0, a1] st S else run 271 j 41 [a0, a1] st S := st_ite rfl
theorem s271_41 {j : Nat} {a0 : av} {st : List av} (x : Int32) (S : Sto) : run 271 j 41 [a0, vI x] st S = run 271 j 44 [a0, vI (x + 8)] st S := st_ rfl
theorem s271_44 {j : Nat} {a1 : av} {st : List av} (x : Int32) (S : Sto) : run 271 j 44 [vI x, a1] st S = run 271 j 45 [vI x, a1] (vI x :: st) S := st_ rfl
theorem s271_45 {j : Nat} {a0 : av} {a1 : av} {st : List av} (S : Sto) : run 271 j 45 [a0, a1] st S = run 271 j 47 [a0, a1] (vI 8 :: st) S := st_ rfl
theorem s271_47 {j : Nat} {a0 : av} {a1 : av} {st : List av} (x y : Int32) (S : Sto) : run 271 j 47 [a0, a1] (vI y :: vI x :: st) S = run 271 j 48 [a0, a1] (vI ((x.toUInt32 >>> (y.toUInt32 &&& Int32.toUInt32 31)).toInt32) :: st) S := st_ rfl
theorem s271_48 {j : Nat} {a0 : av} {a1 : av} {st : List av} (x : Int32) (S : Sto) : run 271 j 48 [a0, a1] (vI x :: st) S = run 271 j 49 [vI x, a1] st S := st_ rfl
theorem s271_49 {j : Nat} {a1 : av} {st : List av} (x : Int32) (S : Sto) : run 271 j 49 [vI x, a1] st S = run 271 j 50 [vI x, a1] (vI x :: st) S := st_ rfl
theorem s271_50 {j : Nat} {a0 : av} {a1 : av} {st : List av} (S : Sto) : run 271 j 50 [a0, a1] st S = run 271 j 52 [a0, a1] (vI 16 :: st) S := st_ rfl
theorem s271_52 {j : Nat} {a0 : av} {a1 : av} {st : List av} (x y : Int32) (S : Sto) : run 271 j 52 [a0, a1] (vI y :: vI x :: st) S = if x ≤ y then run 271 j 62 [a0, a1] st S else run 271 j 55 [a0, a1] st S := st_ite rfl
theorem s271_55 {j : Nat} {a0 : av} {st : List av} (x : Int32) (S : Sto) : run 271 j 55 [a0, vI x] st S = run 271 j 58 [a0, vI (x + 4)] st S := st_ rfl
theorem s271_58 {j : Nat} {a1 : av} {st : List av} (x : Int32) (S : Sto) : run 271 j 58 [vI x, a1] st S = run 271 j 59 [vI x, a1] (vI x :: st) S := st_ rfl
theorem s271_59 {j : Nat} {a0 : av} {a1 : av} {st : List av} (S : Sto) : run 271 j 59 [a0, a1] st S = run 271 j 60 [a0, a1] (vI 4 :: st) S := st_ rfl
theorem s271_60 {j : Nat} {a0 : av} {a1 : av} {st : List av} (x y : Int32) (S : Sto) : run 271 j 60 [a0, a1] (vI y :: vI x :: st) S = run 271 j 61 [a0, a1] (vI ((x.toUInt32 >>> (y.toUInt32 &&& Int32.toUInt32 31)).toInt32) :: st) S := st_ rfl
theorem s271_61 {j : Nat} {a0 : av} {a1 : av} {st : List av} (x : Int32) (S : Sto) : run 271 j 61 [a0, a1] (vI x :: st) S = run 271 j 62 [vI x, a1] st S := st_ rfl
theorem s271_62 {j : Nat} {a1 : av} {st : List av} (x : Int32) (S : Sto) : run 271 j 62 [vI x, a1] st S = run 271 j 63 [vI x, a1] (vI x :: st) S := st_ rfl
theorem s271_63 {j : Nat} {a0 : av} {a1 : av} {st : List av} (S : Sto) : run 271 j 63 [a0, a1] st S = run 271 j 64 [a0, a1] (vI 4 :: st) S := st_ rfl
theorem s271_64 {j : Nat} {a0 : av} {a1 : av} {st : List av} (x y : Int32) (S : Sto) : run 271 j 64 [a0, a1] (vI y :: vI x :: st) S = if x ≤ y then run 271 j 74 [a0, a1] st S else run 271 j 67 [a0, a1] st S := st_ite rfl
theorem s271_67 {j : Nat} {a0 : av} {st : List av} (x : Int32) (S : Sto) : run 271 j 67 [a0, vI x] st S = run 271 j 70 [a0, vI (x + 2)] st S := st_ rfl
theorem s271_70 {j : Nat} {a1 : av} {st : List av} (x : Int32) (S : Sto) : run 271 j 70 [vI x, a1] st S = run 271 j 71 [vI x, a1] (vI x :: st) S := st_ rfl
theorem s271_71 {j : Nat} {a0 : av} {a1 : av} {st : List av} (S : Sto) : run 271 j 71 [a0, a1] st S = run 271 j 72 [a0, a1] (vI 2 :: st) S := st_ rfl
theorem s271_72 {j : Nat} {a0 : av} {a1 : av} {st : List av} (x y : Int32) (S : Sto) : run 271 j 72 [a0, a1] (vI y :: vI x :: st) S = run 271 j 73 [a0, a1] (vI ((x.toUInt32 >>> (y.toUInt32 &&& Int32.toUInt32 31)).toInt32) :: st) S := st_ rfl
theorem s271_73 {j : Nat} {a0 : av} {a1 : av} {st : List av} (x : Int32) (S : Sto) : run 271 j 73 [a0, a1] (vI x :: st) S = run 271 j 74 [vI x, a1] st S := st_ rfl
theorem s271_74 {j : Nat} {a0 : av} {st : List av} (x : Int32) (S : Sto) : run 271 j 74 [a0, vI x] st S = run 271 j 75 [a0, vI x] (vI x :: st) S := st_ rfl
theorem s271_75 {j : Nat} {a1 : av} {st : List av} (x : Int32) (S : Sto) : run 271 j 75 [vI x, a1] st S = run 271 j 76 [vI x, a1] (vI x :: st) S := st_ rfl
theorem s271_76 {j : Nat} {a0 : av} {a1 : av} {st : List av} (S : Sto) : run 271 j 76 [a0, a1] st S = run 271 j 77 [a0, a1] (vI 1 :: st) S := st_ rfl
theorem s271_77 {j : Nat} {a0 : av} {a1 : av} {st : List av} (x y : Int32) (S : Sto) : run 271 j 77 [a0, a1] (vI y :: vI x :: st) S = run 271 j 78 [a0, a1] (vI ((x.toUInt32 >>> (y.toUInt32 &&& Int32.toUInt32 31)).toInt32) :: st) S := st_ rfl
theorem s271_78 {j : Nat} {a0 : av} {a1 : av} {st : List av} (x y : Int32) (S : Sto) : run 271 j 78 [a0, a1] (vI y :: vI x :: st) S = run 271 j 79 [a0, a1] (vI (x + y) :: st) S := st_ rfl
theorem s271_79 {j : Nat} {a0 : av} {a1 : av} (x : Int32) (S : Sto) : run 271 j 79 [a0, a1] [vI x] S = some (some (vI x), S) := st_r rfl
/-! 276 Str_length -/
theorem s276_0 {j : Nat} {st : List av} (q : Nat) (S : Sto) : run 276 j 0 [vR 100 q] st S = run 276 j 1 [vR 100 q] (vR 100 q :: st) S := st_ rfl
theorem s276_1 {j : Nat} {a0 : av} {st : List av} (q : Nat) (S : Sto) : run 276 j 1 [a0] (vR 100 q :: st) S = run 276 j 4 [a0] (vR 101 q :: st) S := st_ rfl
theorem s276_4 {j : Nat} {a0 : av} {st : List av} (q : Nat) (S : Sto) : run 276 j 4 [a0] (vR 101 q :: st) S = run 276 j 5 [a0] (vI (Int32.ofNat (strB q).length) :: st) S := st_ rfl
theorem s276_5 {j : Nat} {st : List av} (q : Nat) (S : Sto) : run 276 j 5 [vR 100 q] st S = run 276 j 6 [vR 100 q] (vR 100 q :: st) S := st_ rfl
theorem s276_6 {j : Nat} {a0 : av} (x0 : Nat) (x1 : Int32) (S : Sto) : run 276 j 6 [a0] [vR 100 x0, vI x1] S = bV (call 277 0 [vR 100 x0] S) (fun v S' => run 276 j 9 [a0] (v :: [vI x1]) S') := st_cV rfl
theorem s276_9 {j : Nat} {a0 : av} {st : List av} (x y : Int32) (S : Sto) : run 276 j 9 [a0] (vI y :: vI x :: st) S = run 276 j 10 [a0] (vI (x >>> (y &&& 31)) :: st) S := st_ rfl
theorem s276_10 {j : Nat} {a0 : av} (x : Int32) (S : Sto) : run 276 j 10 [a0] [vI x] S = some (some (vI x), S) := st_r rfl
/-! 277 Str_coder -/
theorem s277_0 {j : Nat} {a0 : av} {st : List av} (S : Sto) : run 277 j 0 [a0] st S = run 277 j 3 [a0] (vI 1 :: st) S := st_ rfl
theorem s277_3 {j : Nat} {a0 : av} {st : List av} (x : Int32) (S : Sto) : run 277 j 3 [a0] (vI x :: st) S = if x = 0 then run 277 j 13 [a0] st S else run 277 j 6 [a0] st S := st_ite rfl
theorem s277_6 {j : Nat} {st : List av} (q : Nat) (S : Sto) : run 277 j 6 [vR 100 q] st S = run 277 j 7 [vR 100 q] (vR 100 q :: st) S := st_ rfl
theorem s277_7 {j : Nat} {a0 : av} {st : List av} (q : Nat) (S : Sto) : run 277 j 7 [a0] (vR 100 q :: st) S = run 277 j 10 [a0] (vI 0 :: st) S := st_ rfl
theorem s277_10 {j : Nat} {a0 : av} {st : List av} (S : Sto) : run 277 j 10 [a0] st S = run 277 j 14 [a0] st S := st_ rfl
theorem s277_13 {j : Nat} {a0 : av} {st : List av} (S : Sto) : run 277 j 13 [a0] st S = run 277 j 14 [a0] (vI 1 :: st) S := st_ rfl
theorem s277_14 {j : Nat} {a0 : av} (x : Int32) (S : Sto) : run 277 j 14 [a0] [vI x] S = if vp_nar .byte x = x then some (some (vI x), S) else none := st_rb rfl
/-! 278 Str_charAt -/
theorem s278_0 {j : Nat} {a1 : av} {st : List av} (q : Nat) (S : Sto) : run 278 j 0 [vR 100 q, a1] st S = run 278 j 1 [vR 100 q, a1] (vR 100 q :: st) S := st_ rfl
theorem s278_1 {j : Nat} {a0 : av} {a1 : av} (x0 : Nat) (S : Sto) : run 278 j 1 [a0, a1] [vR 100 x0] S = bV (call 279 0 [vR 100 x0] S) (fun v S' => run 278 j 4 [a0, a1] (v :: []) S') := st_cV rfl
theorem s278_4 {j : Nat} {a0 : av} {a1 : av} {st : List av} (x : Int32) (S : Sto) : run 278 j 4 [a0, a1] (vI x :: st) S = if x = 0 then run 278 j 16 [a0, a1] st S else run 278 j 7 [a0, a1] st S := st_ite rfl
theorem s278_7 {j : Nat} {a1 : av} {st : List av} (q : Nat) (S : Sto) : run 278 j 7 [vR 100 q, a1] st S = run 278 j 8 [vR 100 q, a1] (vR 100 q :: st) S := st_ rfl
theorem s278_8 {j : Nat} {a0 : av} {a1 : av} {st : List av} (q : Nat) (S : Sto) : run 278 j 8 [a0, a1] (vR 100 q :: st) S = run 278 j 11 [a0, a1] (vR 101 q :: st) S := st_ rfl
theorem s278_11 {j : Nat} {a0 : av} {st : List av} (x : Int32) (S : Sto) : run 278 j 11 [a0, vI x] st S = run 278 j 12 [a0, vI x] (vI x :: st) S := st_ rfl
theorem s278_12 {j : Nat} {a0 : av} {a1 : av} (x0 : Int32) (x1 : Nat) (S : Sto) : run 278 j 12 [a0, a1] [vI x0, vR 101 x1] S = bV (call 281 0 [vR 101 x1, vI x0] S) (fun v S' => run 278 j 15 [a0, a1] (v :: []) S') := st_cV rfl
theorem s278_15 {j : Nat} {a0 : av} {a1 : av} (x : Int32) (S : Sto) : run 278 j 15 [a0, a1] [vI x] S = if vp_nar .char x = x then some (some (vI x), S) else none := st_rb rfl
theorem s278_16 {j : Nat} {a1 : av} {st : List av} (q : Nat) (S : Sto) : run 278 j 16 [vR 100 q, a1] st S = run 278 j 17 [vR 100 q, a1] (vR 100 q :: st) S := st_ rfl
theorem s278_17 {j : Nat} {a0 : av} {a1 : av} {st : List av} (q : Nat) (S : Sto) : run 278 j 17 [a0, a1] (vR 100 q :: st) S = run 278 j 20 [a0, a1] (vR 101 q :: st) S := st_ rfl
theorem s278_20 {j : Nat} {a0 : av} {st : List av} (x : Int32) (S : Sto) : run 278 j 20 [a0, vI x] st S = run 278 j 21 [a0, vI x] (vI x :: st) S := st_ rfl
/-! 279 Str_isLatin1 -/
theorem s279_0 {j : Nat} {a0 : av} {st : List av} (S : Sto) : run 279 j 0 [a0] st S = run 279 j 3 [a0] (vI 1 :: st) S := st_ rfl
theorem s279_3 {j : Nat} {a0 : av} {st : List av} (x : Int32) (S : Sto) : run 279 j 3 [a0] (vI x :: st) S = if x = 0 then run 279 j 17 [a0] st S else run 279 j 6 [a0] st S := st_ite rfl
theorem s279_6 {j : Nat} {st : List av} (q : Nat) (S : Sto) : run 279 j 6 [vR 100 q] st S = run 279 j 7 [vR 100 q] (vR 100 q :: st) S := st_ rfl
theorem s279_7 {j : Nat} {a0 : av} {st : List av} (q : Nat) (S : Sto) : run 279 j 7 [a0] (vR 100 q :: st) S = run 279 j 10 [a0] (vI 0 :: st) S := st_ rfl
theorem s279_10 {j : Nat} {a0 : av} {st : List av} (x : Int32) (S : Sto) : run 279 j 10 [a0] (vI x :: st) S = if x = 0 then run 279 j 13 [a0] st S else run 279 j 17 [a0] st S := st_ite rfl
theorem s279_13 {j : Nat} {a0 : av} {st : List av} (S : Sto) : run 279 j 13 [a0] st S = run 279 j 14 [a0] (vI 1 :: st) S := st_ rfl
theorem s279_14 {j : Nat} {a0 : av} {st : List av} (S : Sto) : run 279 j 14 [a0] st S = run 279 j 18 [a0] st S := st_ rfl
theorem s279_17 {j : Nat} {a0 : av} {st : List av} (S : Sto) : run 279 j 17 [a0] st S = run 279 j 18 [a0] (vI 0 :: st) S := st_ rfl
theorem s279_18 {j : Nat} {a0 : av} (x : Int32) (S : Sto) : run 279 j 18 [a0] [vI x] S = if vp_nar .boolean x = x then some (some (vI x), S) else none := st_rb rfl
/-! 280 Str_checkIndex -/
theorem s280_0 {j : Nat} {a1 : av} {st : List av} (x : Int32) (S : Sto) : run 280 j 0 [vI x, a1] st S = run 280 j 1 [vI x, a1] (vI x :: st) S := st_ rfl
theorem s280_1 {j : Nat} {a0 : av} {st : List av} (x : Int32) (S : Sto) : run 280 j 1 [a0, vI x] st S = run 280 j 2 [a0, vI x] (vI x :: st) S := st_ rfl
theorem s280_2 {j : Nat} {a0 : av} {a1 : av} {st : List av} (S : Sto) : run 280 j 2 [a0, a1] st S = run 280 j 5 [a0, a1] (vR 103 0 :: st) S := st_ rfl
theorem s280_5 {j : Nat} {a0 : av} {a1 : av} (x1 : Int32) (x2 : Int32) (S : Sto) : run 280 j 5 [a0, a1] [vR 103 0, vI x1, vI x2] S = bV (call 288 0 [vI x2, vI x1, vR 103 0] S) (fun v S' => run 280 j 8 [a0, a1] (v :: []) S') := st_cV rfl
theorem s280_8 {j : Nat} {a0 : av} {a1 : av} {st : List av} (x : Int32) (S : Sto) : run 280 j 8 [a0, a1] (vI x :: st) S = run 280 j 9 [a0, a1] st S := st_ rfl
theorem s280_9 {j : Nat} {a0 : av} {a1 : av} (S : Sto) : run 280 j 9 [a0, a1] [] S = some (none, S) := st_r rfl
/-! 281 Lat_charAt -/
theorem s281_0 {j : Nat} {a0 : av} {st : List av} (x : Int32) (S : Sto) : run 281 j 0 [a0, vI x] st S = run 281 j 1 [a0, vI x] (vI x :: st) S := st_ rfl
theorem s281_1 {j : Nat} {a1 : av} {st : List av} (q : Nat) (S : Sto) : run 281 j 1 [vR 101 q, a1] st S = run 281 j 2 [vR 101 q, a1] (vR 101 q :: st) S := st_ rfl
theorem s281_2 {j : Nat} {a0 : av} {a1 : av} {st : List av} (q : Nat) (S : Sto) : run 281 j 2 [a0, a1] (vR 101 q :: st) S = run 281 j 3 [a0, a1] (vI (Int32.ofNat (strB q).length) :: st) S := st_ rfl
theorem s281_3 {j : Nat} {a0 : av} {a1 : av} (x0 : Int32) (x1 : Int32) (S : Sto) : run 281 j 3 [a0, a1] [vI x0, vI x1] S = bU (call 280 0 [vI x1, vI x0] S) (fun S' => run 281 j 6 [a0, a1] [] S') := st_cU rfl
theorem s281_6 {j : Nat} {a1 : av} {st : List av} (q : Nat) (S : Sto) : run 281 j 6 [vR 101 q, a1] st S = run 281 j 7 [vR 101 q, a1] (vR 101 q :: st) S := st_ rfl
theorem s281_7 {j : Nat} {a0 : av} {st : List av} (x : Int32) (S : Sto) : run 281 j 7 [a0, vI x] st S = run 281 j 8 [a0, vI x] (vI x :: st) S := st_ rfl
theorem s281_8 {j : Nat} {a0 : av} {a1 : av} {st : List av} (x : Int32) (q : Nat) (S : Sto) : run 281 j 8 [a0, a1] (vI x :: vR 101 q :: st) S = if ib x (strB q).length then run 281 j 9 [a0, a1] (vI ((strB q).getD x.toNatClampNeg 0) :: st) S else none := st_itN rfl
theorem s281_9 {j : Nat} {a0 : av} {a1 : av} {st : List av} (S : Sto) : run 281 j 9 [a0, a1] st S = run 281 j 12 [a0, a1] (vI 255 :: st) S := st_ rfl
theorem s281_12 {j : Nat} {a0 : av} {a1 : av} {st : List av} (x y : Int32) (S : Sto) : run 281 j 12 [a0, a1] (vI y :: vI x :: st) S = run 281 j 13 [a0, a1] (vI (x &&& y) :: st) S := st_ rfl
theorem s281_13 {j : Nat} {a0 : av} {a1 : av} {st : List av} (x : Int32) (S : Sto) : run 281 j 13 [a0, a1] (vI x :: st) S = run 281 j 14 [a0, a1] (vI (x.toUInt32 % 65536).toInt32 :: st) S := st_ rfl
theorem s281_14 {j : Nat} {a0 : av} {a1 : av} (x : Int32) (S : Sto) : run 281 j 14 [a0, a1] [vI x] S = if vp_nar .char x = x then some (some (vI x), S) else none := st_rb rfl
/-! 282 Arr_fill_aJJ -/
theorem s282_0 {j : Nat} {a0 : av} {a1 : av} {a2 : av} {a3 : av} {a4 : av} {st : List av} (S : Sto) : run 282 j 0 [a0, a1, a2, a3, a4] st S = run 282 j 1 [a0, a1, a2, a3, a4] (vI 0 :: st) S := st_ rfl
theorem s282_1 {j : Nat} {a0 : av} {a1 : av} {a2 : av} {a3 : av} {a4 : av} {st : List av} (x : Int32) (S : Sto) : run 282 j 1 [a0, a1, a2, a3, a4] (vI x :: st) S = run 282 j 2 [a0, a1, a2, vI x, a4] st S := st_ rfl
theorem s282_2 {j : Nat} {a1 : av} {a2 : av} {a3 : av} {a4 : av} {st : List av} (t q : Nat) (S : Sto) (ht : Nat.beq t 103 = false) : run 282 j 2 [vR t q, a1, a2, a3, a4] st S = run 282 j 3 [vR t q, a1, a2, a3, a4] (vR t q :: st) S := st_aload (i := 0) ht rfl rfl
theorem s282_3 {j : Nat} {a0 : av} {a1 : av} {a2 : av} {a3 : av} {a4 : av} {st : List av} (t q : Nat) (S : Sto) (n : Nat) (hn : aln S t q = some n) : run 282 j 3 [a0, a1, a2, a3, a4] (vR t q :: st) S = run 282 j 4 [a0, a1, a2, a3, a4] (vI (Int32.ofNat n) :: st) S := st_aln hn rfl
theorem s282_4 {j : Nat} {a0 : av} {a1 : av} {a2 : av} {a3 : av} {a4 : av} {st : List av} (x : Int32) (S : Sto) : run 282 j 4 [a0, a1, a2, a3, a4] (vI x :: st) S = run 282 j 6 [a0, a1, a2, a3, vI x] st S := st_ rfl
theorem s282_6 {j : Nat} {a0 : av} {a1 : av} {a2 : av} {a4 : av} {st : List av} (x : Int32) (S : Sto) : run 282 j 6 [a0, a1, a2, vI x, a4] st S = run 282 j 7 [a0, a1, a2, vI x, a4] (vI x :: st) S := st_ rfl
theorem s282_7 {j : Nat} {a0 : av} {a1 : av} {a2 : av} {a3 : av} {st : List av} (x : Int32) (S : Sto) : run 282 j 7 [a0, a1, a2, a3, vI x] st S = run 282 j 9 [a0, a1, a2, a3, vI x] (vI x :: st) S := st_ rfl
theorem s282_9 {j : Nat} {a0 : av} {a1 : av} {a2 : av} {a3 : av} {a4 : av} {st : List av} (x y : Int32) (S : Sto) : run 282 j 9 [a0, a1, a2, a3, a4] (vI y :: vI x :: st) S = if y ≤ x then run 282 j 22 [a0, a1, a2, a3, a4] st S else run 282 j 12 [a0, a1, a2, a3, a4] st S := st_ite rfl
theorem s282_12 {j : Nat} {a1 : av} {a2 : av} {a3 : av} {a4 : av} {st : List av} (t q : Nat) (S : Sto) (ht : Nat.beq t 103 = false) : run 282 j 12 [vR t q, a1, a2, a3, a4] st S = run 282 j 13 [vR t q, a1, a2, a3, a4] (vR t q :: st) S := st_aload (i := 0) ht rfl rfl
theorem s282_13 {j : Nat} {a0 : av} {a1 : av} {a2 : av} {a4 : av} {st : List av} (x : Int32) (S : Sto) : run 282 j 13 [a0, a1, a2, vI x, a4] st S = run 282 j 14 [a0, a1, a2, vI x, a4] (vI x :: st) S := st_ rfl
theorem s282_14 {j : Nat} {a0 : av} {a2 : av} {a3 : av} {a4 : av} {st : List av} (x : Int64) (S : Sto) : run 282 j 14 [a0, vL x, a2, a3, a4] st S = run 282 j 15 [a0, vL x, a2, a3, a4] (vL x :: st) S := st_ rfl
theorem s282_15 {j : Nat} {a0 : av} {a1 : av} {a2 : av} {a3 : av} {a4 : av} {st : List av} (v : Int64) (x : Int32) (t q : Nat) (S : Sto) (hk : (knd t).1 = 2) : run 282 j 15 [a0, a1, a2, a3, a4] (vL v :: vI x :: vR t q :: st) S = if ib x (knd t).2.1 then run 282 j 16 [a0, a1, a2, a3, a4] st (uL S t q x.toNatClampNeg v) else none := st_lastore hk rfl
theorem s282_16 {j : Nat} {a0 : av} {a1 : av} {a2 : av} {a4 : av} {st : List av} (x : Int32) (S : Sto) : run 282 j 16 [a0, a1, a2, vI x, a4] st S = run 282 j 19 [a0, a1, a2, vI (x + 1), a4] st S := st_ rfl
theorem s282_19 {j : Nat} {a0 : av} {a1 : av} {a2 : av} {a3 : av} {a4 : av} {st : List av} (S : Sto) : run 282 j 19 [a0, a1, a2, a3, a4] st S = run 282 j 6 [a0, a1, a2, a3, a4] st S := st_ rfl
theorem s282_22 {j : Nat} {a0 : av} {a1 : av} {a2 : av} {a3 : av} {a4 : av} (S : Sto) : run 282 j 22 [a0, a1, a2, a3, a4] [] S = some (none, S) := st_r rfl
/-! 283 Arr_fill_aII -/
theorem s283_0 {j : Nat} {a0 : av} {a1 : av} {a2 : av} {a3 : av} {st : List av} (S : Sto) : run 283 j 0 [a0, a1, a2, a3] st S = run 283 j 1 [a0, a1, a2, a3] (vI 0 :: st) S := st_ rfl
theorem s283_1 {j : Nat} {a0 : av} {a1 : av} {a2 : av} {a3 : av} {st : List av} (x : Int32) (S : Sto) : run 283 j 1 [a0, a1, a2, a3] (vI x :: st) S = run 283 j 2 [a0, a1, vI x, a3] st S := st_ rfl
theorem s283_2 {j : Nat} {a1 : av} {a2 : av} {a3 : av} {st : List av} (t q : Nat) (S : Sto) (ht : Nat.beq t 103 = false) : run 283 j 2 [vR t q, a1, a2, a3] st S = run 283 j 3 [vR t q, a1, a2, a3] (vR t q :: st) S := st_aload (i := 0) ht rfl rfl
theorem s283_3 {j : Nat} {a0 : av} {a1 : av} {a2 : av} {a3 : av} {st : List av} (t q : Nat) (S : Sto) (n : Nat) (hn : aln S t q = some n) : run 283 j 3 [a0, a1, a2, a3] (vR t q :: st) S = run 283 j 4 [a0, a1, a2, a3] (vI (Int32.ofNat n) :: st) S := st_aln hn rfl
theorem s283_4 {j : Nat} {a0 : av} {a1 : av} {a2 : av} {a3 : av} {st : List av} (x : Int32) (S : Sto) : run 283 j 4 [a0, a1, a2, a3] (vI x :: st) S = run 283 j 5 [a0, a1, a2, vI x] st S := st_ rfl
theorem s283_5 {j : Nat} {a0 : av} {a1 : av} {a3 : av} {st : List av} (x : Int32) (S : Sto) : run 283 j 5 [a0, a1, vI x, a3] st S = run 283 j 6 [a0, a1, vI x, a3] (vI x :: st) S := st_ rfl
theorem s283_6 {j : Nat} {a0 : av} {a1 : av} {a2 : av} {st : List av} (x : Int32) (S : Sto) : run 283 j 6 [a0, a1, a2, vI x] st S = run 283 j 7 [a0, a1, a2, vI x] (vI x :: st) S := st_ rfl
theorem s283_7 {j : Nat} {a0 : av} {a1 : av} {a2 : av} {a3 : av} {st : List av} (x y : Int32) (S : Sto) : run 283 j 7 [a0, a1, a2, a3] (vI y :: vI x :: st) S = if y ≤ x then run 283 j 20 [a0, a1, a2, a3] st S else run 283 j 10 [a0, a1, a2, a3] st S := st_ite rfl
theorem s283_10 {j : Nat} {a1 : av} {a2 : av} {a3 : av} {st : List av} (t q : Nat) (S : Sto) (ht : Nat.beq t 103 = false) : run 283 j 10 [vR t q, a1, a2, a3] st S = run 283 j 11 [vR t q, a1, a2, a3] (vR t q :: st) S := st_aload (i := 0) ht rfl rfl
theorem s283_11 {j : Nat} {a0 : av} {a1 : av} {a3 : av} {st : List av} (x : Int32) (S : Sto) : run 283 j 11 [a0, a1, vI x, a3] st S = run 283 j 12 [a0, a1, vI x, a3] (vI x :: st) S := st_ rfl
theorem s283_12 {j : Nat} {a0 : av} {a2 : av} {a3 : av} {st : List av} (x : Int32) (S : Sto) : run 283 j 12 [a0, vI x, a2, a3] st S = run 283 j 13 [a0, vI x, a2, a3] (vI x :: st) S := st_ rfl
theorem s283_13 {j : Nat} {a0 : av} {a1 : av} {a2 : av} {a3 : av} {st : List av} (v : Int32) (x : Int32) (t q : Nat) (S : Sto) (hk : (knd t).1 = 1) : run 283 j 13 [a0, a1, a2, a3] (vI v :: vI x :: vR t q :: st) S = if ib x (knd t).2.1 then run 283 j 14 [a0, a1, a2, a3] st (uI S t q x.toNatClampNeg v) else none := st_iastore hk rfl
theorem s283_14 {j : Nat} {a0 : av} {a1 : av} {a3 : av} {st : List av} (x : Int32) (S : Sto) : run 283 j 14 [a0, a1, vI x, a3] st S = run 283 j 17 [a0, a1, vI (x + 1), a3] st S := st_ rfl
theorem s283_17 {j : Nat} {a0 : av} {a1 : av} {a2 : av} {a3 : av} {st : List av} (S : Sto) : run 283 j 17 [a0, a1, a2, a3] st S = run 283 j 5 [a0, a1, a2, a3] st S := st_ rfl
theorem s283_20 {j : Nat} {a0 : av} {a1 : av} {a2 : av} {a3 : av} (S : Sto) : run 283 j 20 [a0, a1, a2, a3] [] S = some (none, S) := st_r rfl
/-! 284 Arr_fill_aIIII -/
theorem s284_0 {j : Nat} {a1 : av} {a2 : av} {a3 : av} {a4 : av} {st : List av} (t q : Nat) (S : Sto) (ht : Nat.beq t 103 = false) : run 284 j 0 [vR t q, a1, a2, a3, a4] st S = run 284 j 1 [vR t q, a1, a2, a3, a4] (vR t q :: st) S := st_aload (i := 0) ht rfl rfl
theorem s284_1 {j : Nat} {a0 : av} {a1 : av} {a2 : av} {a3 : av} {a4 : av} {st : List av} (t q : Nat) (S : Sto) (n : Nat) (hn : aln S t q = some n) : run 284 j 1 [a0, a1, a2, a3, a4] (vR t q :: st) S = run 284 j 2 [a0, a1, a2, a3, a4] (vI (Int32.ofNat n) :: st) S := st_aln hn rfl
theorem s284_2 {j : Nat} {a0 : av} {a2 : av} {a3 : av} {a4 : av} {st : List av} (x : Int32) (S : Sto) : run 284 j 2 [a0, vI x, a2, a3, a4] st S = run 284 j 3 [a0, vI x, a2, a3, a4] (vI x :: st) S := st_ rfl
theorem s284_3 {j : Nat} {a0 : av} {a1 : av} {a3 : av} {a4 : av} {st : List av} (x : Int32) (S : Sto) : run 284 j 3 [a0, a1, vI x, a3, a4] st S = run 284 j 4 [a0, a1, vI x, a3, a4] (vI x :: st) S := st_ rfl
theorem s284_4 {j : Nat} {a0 : av} {a1 : av} {a2 : av} {a3 : av} {a4 : av} (x0 : Int32) (x1 : Int32) (x2 : Int32) (S : Sto) : run 284 j 4 [a0, a1, a2, a3, a4] [vI x0, vI x1, vI x2] S = bU (call 285 0 [vI x2, vI x1, vI x0] S) (fun S' => run 284 j 7 [a0, a1, a2, a3, a4] [] S') := st_cU rfl
theorem s284_7 {j : Nat} {a0 : av} {a2 : av} {a3 : av} {a4 : av} {st : List av} (x : Int32) (S : Sto) : run 284 j 7 [a0, vI x, a2, a3, a4] st S = run 284 j 8 [a0, vI x, a2, a3, a4] (vI x :: st) S := st_ rfl
theorem s284_8 {j : Nat} {a0 : av} {a1 : av} {a2 : av} {a3 : av} {a4 : av} {st : List av} (x : Int32) (S : Sto) : run 284 j 8 [a0, a1, a2, a3, a4] (vI x :: st) S = run 284 j 10 [a0, a1, a2, a3, vI x] st S := st_ rfl
theorem s284_10 {j : Nat} {a0 : av} {a1 : av} {a2 : av} {a3 : av} {st : List av} (x : Int32) (S : Sto) : run 284 j 10 [a0, a1, a2, a3, vI x] st S = run 284 j 12 [a0, a1, a2, a3, vI x] (vI x :: st) S := st_ rfl
theorem s284_12 {j : Nat} {a0 : av} {a1 : av} {a3 : av} {a4 : av} {st : List av} (x : Int32) (S : Sto) : run 284 j 12 [a0, a1, vI x, a3, a4] st S = run 284 j 13 [a0, a1, vI x, a3, a4] (vI x :: st) S := st_ rfl
theorem s284_13 {j : Nat} {a0 : av} {a1 : av} {a2 : av} {a3 : av} {a4 : av} {st : List av} (x y : Int32) (S : Sto) : run 284 j 13 [a0, a1, a2, a3, a4] (vI y :: vI x :: st) S = if y ≤ x then run 284 j 27 [a0, a1, a2, a3, a4] st S else run 284 j 16 [a0, a1, a2, a3, a4] st S := st_ite rfl
theorem s284_16 {j : Nat} {a1 : av} {a2 : av} {a3 : av} {a4 : av} {st : List av} (t q : Nat) (S : Sto) (ht : Nat.beq t 103 = false) : run 284 j 16 [vR t q, a1, a2, a3, a4] st S = run 284 j 17 [vR t q, a1, a2, a3, a4] (vR t q :: st) S := st_aload (i := 0) ht rfl rfl
theorem s284_17 {j : Nat} {a0 : av} {a1 : av} {a2 : av} {a3 : av} {st : List av} (x : Int32) (S : Sto) : run 284 j 17 [a0, a1, a2, a3, vI x] st S = run 284 j 19 [a0, a1, a2, a3, vI x] (vI x :: st) S := st_ rfl
theorem s284_19 {j : Nat} {a0 : av} {a1 : av} {a2 : av} {a4 : av} {st : List av} (x : Int32) (S : Sto) : run 284 j 19 [a0, a1, a2, vI x, a4] st S = run 284 j 20 [a0, a1, a2, vI x, a4] (vI x :: st) S := st_ rfl
theorem s284_20 {j : Nat} {a0 : av} {a1 : av} {a2 : av} {a3 : av} {a4 : av} {st : List av} (v : Int32) (x : Int32) (t q : Nat) (S : Sto) (hk : (knd t).1 = 1) : run 284 j 20 [a0, a1, a2, a3, a4] (vI v :: vI x :: vR t q :: st) S = if ib x (knd t).2.1 then run 284 j 21 [a0, a1, a2, a3, a4] st (uI S t q x.toNatClampNeg v) else none := st_iastore hk rfl
theorem s284_21 {j : Nat} {a0 : av} {a1 : av} {a2 : av} {a3 : av} {st : List av} (x : Int32) (S : Sto) : run 284 j 21 [a0, a1, a2, a3, vI x] st S = run 284 j 24 [a0, a1, a2, a3, vI (x + 1)] st S := st_ rfl
theorem s284_24 {j : Nat} {a0 : av} {a1 : av} {a2 : av} {a3 : av} {a4 : av} {st : List av} (S : Sto) : run 284 j 24 [a0, a1, a2, a3, a4] st S = run 284 j 10 [a0, a1, a2, a3, a4] st S := st_ rfl
theorem s284_27 {j : Nat} {a0 : av} {a1 : av} {a2 : av} {a3 : av} {a4 : av} (S : Sto) : run 284 j 27 [a0, a1, a2, a3, a4] [] S = some (none, S) := st_r rfl
/-! 285 Arr_rangeCheck -/
theorem s285_0 {j : Nat} {a0 : av} {a2 : av} {st : List av} (x : Int32) (S : Sto) : run 285 j 0 [a0, vI x, a2] st S = run 285 j 1 [a0, vI x, a2] (vI x :: st) S := st_ rfl
theorem s285_1 {j : Nat} {a0 : av} {a1 : av} {st : List av} (x : Int32) (S : Sto) : run 285 j 1 [a0, a1, vI x] st S = run 285 j 2 [a0, a1, vI x] (vI x :: st) S := st_ rfl
theorem s285_2 {j : Nat} {a0 : av} {a1 : av} {a2 : av} {st : List av} (x y : Int32) (S : Sto) : run 285 j 2 [a0, a1, a2] (vI y :: vI x :: st) S = if x ≤ y then run 285 j 46 [a0, a1, a2] st S else run 285 j 5 [a0, a1, a2] st S := st_ite rfl
theorem s285_46 {j : Nat} {a0 : av} {a2 : av} {st : List av} (x : Int32) (S : Sto) : run 285 j 46 [a0, vI x, a2] st S = run 285 j 47 [a0, vI x, a2] (vI x :: st) S := st_ rfl
theorem s285_47 {j : Nat} {a0 : av} {a1 : av} {a2 : av} {st : List av} (x : Int32) (S : Sto) : run 285 j 47 [a0, a1, a2] (vI x :: st) S = if 0 ≤ x then run 285 j 59 [a0, a1, a2] st S else run 285 j 50 [a0, a1, a2] st S := st_ite rfl
theorem s285_59 {j : Nat} {a0 : av} {a1 : av} {st : List av} (x : Int32) (S : Sto) : run 285 j 59 [a0, a1, vI x] st S = run 285 j 60 [a0, a1, vI x] (vI x :: st) S := st_ rfl
theorem s285_60 {j : Nat} {a1 : av} {a2 : av} {st : List av} (x : Int32) (S : Sto) : run 285 j 60 [vI x, a1, a2] st S = run 285 j 61 [vI x, a1, a2] (vI x :: st) S := st_ rfl
theorem s285_61 {j : Nat} {a0 : av} {a1 : av} {a2 : av} {st : List av} (x y : Int32) (S : Sto) : run 285 j 61 [a0, a1, a2] (vI y :: vI x :: st) S = if x ≤ y then run 285 j 73 [a0, a1, a2] st S else run 285 j 64 [a0, a1, a2] st S := st_ite rfl
theorem s285_73 {j : Nat} {a0 : av} {a1 : av} {a2 : av} (S : Sto) : run 285 j 73 [a0, a1, a2] [] S = some (none, S) := st_r rfl
/-! 286 Arr_fill_aBIIB -/
theorem s286_0 {j : Nat} {a1 : av} {a2 : av} {a3 : av} {a4 : av} {st : List av} (t q : Nat) (S : Sto) (ht : Nat.beq t 103 = false) : run 286 j 0 [vR t q, a1, a2, a3, a4] st S = run 286 j 1 [vR t q, a1, a2, a3, a4] (vR t q :: st) S := st_aload (i := 0) ht rfl rfl
theorem s286_1 {j : Nat} {a0 : av} {a1 : av} {a2 : av} {a3 : av} {a4 : av} {st : List av} (t q : Nat) (S : Sto) (n : Nat) (hn : aln S t q = some n) : run 286 j 1 [a0, a1, a2, a3, a4] (vR t q :: st) S = run 286 j 2 [a0, a1, a2, a3, a4] (vI (Int32.ofNat n) :: st) S := st_aln hn rfl
theorem s286_2 {j : Nat} {a0 : av} {a2 : av} {a3 : av} {a4 : av} {st : List av} (x : Int32) (S : Sto) : run 286 j 2 [a0, vI x, a2, a3, a4] st S = run 286 j 3 [a0, vI x, a2, a3, a4] (vI x :: st) S := st_ rfl
theorem s286_3 {j : Nat} {a0 : av} {a1 : av} {a3 : av} {a4 : av} {st : List av} (x : Int32) (S : Sto) : run 286 j 3 [a0, a1, vI x, a3, a4] st S = run 286 j 4 [a0, a1, vI x, a3, a4] (vI x :: st) S := st_ rfl
theorem s286_4 {j : Nat} {a0 : av} {a1 : av} {a2 : av} {a3 : av} {a4 : av} (x0 : Int32) (x1 : Int32) (x2 : Int32) (S : Sto) : run 286 j 4 [a0, a1, a2, a3, a4] [vI x0, vI x1, vI x2] S = bU (call 285 0 [vI x2, vI x1, vI x0] S) (fun S' => run 286 j 7 [a0, a1, a2, a3, a4] [] S') := st_cU rfl
theorem s286_7 {j : Nat} {a0 : av} {a2 : av} {a3 : av} {a4 : av} {st : List av} (x : Int32) (S : Sto) : run 286 j 7 [a0, vI x, a2, a3, a4] st S = run 286 j 8 [a0, vI x, a2, a3, a4] (vI x :: st) S := st_ rfl
theorem s286_8 {j : Nat} {a0 : av} {a1 : av} {a2 : av} {a3 : av} {a4 : av} {st : List av} (x : Int32) (S : Sto) : run 286 j 8 [a0, a1, a2, a3, a4] (vI x :: st) S = run 286 j 10 [a0, a1, a2, a3, vI x] st S := st_ rfl
theorem s286_10 {j : Nat} {a0 : av} {a1 : av} {a2 : av} {a3 : av} {st : List av} (x : Int32) (S : Sto) : run 286 j 10 [a0, a1, a2, a3, vI x] st S = run 286 j 12 [a0, a1, a2, a3, vI x] (vI x :: st) S := st_ rfl
theorem s286_12 {j : Nat} {a0 : av} {a1 : av} {a3 : av} {a4 : av} {st : List av} (x : Int32) (S : Sto) : run 286 j 12 [a0, a1, vI x, a3, a4] st S = run 286 j 13 [a0, a1, vI x, a3, a4] (vI x :: st) S := st_ rfl
theorem s286_13 {j : Nat} {a0 : av} {a1 : av} {a2 : av} {a3 : av} {a4 : av} {st : List av} (x y : Int32) (S : Sto) : run 286 j 13 [a0, a1, a2, a3, a4] (vI y :: vI x :: st) S = if y ≤ x then run 286 j 27 [a0, a1, a2, a3, a4] st S else run 286 j 16 [a0, a1, a2, a3, a4] st S := st_ite rfl
theorem s286_16 {j : Nat} {a1 : av} {a2 : av} {a3 : av} {a4 : av} {st : List av} (t q : Nat) (S : Sto) (ht : Nat.beq t 103 = false) : run 286 j 16 [vR t q, a1, a2, a3, a4] st S = run 286 j 17 [vR t q, a1, a2, a3, a4] (vR t q :: st) S := st_aload (i := 0) ht rfl rfl
theorem s286_17 {j : Nat} {a0 : av} {a1 : av} {a2 : av} {a3 : av} {st : List av} (x : Int32) (S : Sto) : run 286 j 17 [a0, a1, a2, a3, vI x] st S = run 286 j 19 [a0, a1, a2, a3, vI x] (vI x :: st) S := st_ rfl
theorem s286_19 {j : Nat} {a0 : av} {a1 : av} {a2 : av} {a4 : av} {st : List av} (x : Int32) (S : Sto) : run 286 j 19 [a0, a1, a2, vI x, a4] st S = run 286 j 20 [a0, a1, a2, vI x, a4] (vI x :: st) S := st_ rfl
theorem s286_20 {j : Nat} {a0 : av} {a1 : av} {a2 : av} {a3 : av} {a4 : av} {st : List av} (v : Int32) (x : Int32) (t q : Nat) (S : Sto) (hk : (knd t).1 = 3) : run 286 j 20 [a0, a1, a2, a3, a4] (vI v :: vI x :: vR t q :: st) S = if ib x (knd t).2.1 then run 286 j 21 [a0, a1, a2, a3, a4] st (uI S t q x.toNatClampNeg (vp_nar .byte v)) else none := st_bastore hk rfl
theorem s286_21 {j : Nat} {a0 : av} {a1 : av} {a2 : av} {a3 : av} {st : List av} (x : Int32) (S : Sto) : run 286 j 21 [a0, a1, a2, a3, vI x] st S = run 286 j 24 [a0, a1, a2, a3, vI (x + 1)] st S := st_ rfl
theorem s286_24 {j : Nat} {a0 : av} {a1 : av} {a2 : av} {a3 : av} {a4 : av} {st : List av} (S : Sto) : run 286 j 24 [a0, a1, a2, a3, a4] st S = run 286 j 10 [a0, a1, a2, a3, a4] st S := st_ rfl
theorem s286_27 {j : Nat} {a0 : av} {a1 : av} {a2 : av} {a3 : av} {a4 : av} (S : Sto) : run 286 j 27 [a0, a1, a2, a3, a4] [] S = some (none, S) := st_r rfl
/-! 288 Pre_checkIndex -/
theorem s288_0 {j : Nat} {a1 : av} {a2 : av} {st : List av} (x : Int32) (S : Sto) : run 288 j 0 [vI x, a1, a2] st S = run 288 j 1 [vI x, a1, a2] (vI x :: st) S := st_ rfl
theorem s288_1 {j : Nat} {a0 : av} {a1 : av} {a2 : av} {st : List av} (x : Int32) (S : Sto) : run 288 j 1 [a0, a1, a2] (vI x :: st) S = if x < 0 then run 288 j 9 [a0, a1, a2] st S else run 288 j 4 [a0, a1, a2] st S := st_ite rfl
theorem s288_4 {j : Nat} {a1 : av} {a2 : av} {st : List av} (x : Int32) (S : Sto) : run 288 j 4 [vI x, a1, a2] st S = run 288 j 5 [vI x, a1, a2] (vI x :: st) S := st_ rfl
theorem s288_5 {j : Nat} {a0 : av} {a2 : av} {st : List av} (x : Int32) (S : Sto) : run 288 j 5 [a0, vI x, a2] st S = run 288 j 6 [a0, vI x, a2] (vI x :: st) S := st_ rfl
theorem s288_6 {j : Nat} {a0 : av} {a1 : av} {a2 : av} {st : List av} (x y : Int32) (S : Sto) : run 288 j 6 [a0, a1, a2] (vI y :: vI x :: st) S = if x < y then run 288 j 16 [a0, a1, a2] st S else run 288 j 9 [a0, a1, a2] st S := st_ite rfl
theorem s288_16 {j : Nat} {a1 : av} {a2 : av} {st : List av} (x : Int32) (S : Sto) : run 288 j 16 [vI x, a1, a2] st S = run 288 j 17 [vI x, a1, a2] (vI x :: st) S := st_ rfl
theorem s288_17 {j : Nat} {a0 : av} {a1 : av} {a2 : av} (x : Int32) (S : Sto) : run 288 j 17 [a0, a1, a2] [vI x] S = some (some (vI x), S) := st_r rfl
