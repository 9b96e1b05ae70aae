/-! the cases of the law's switch -/
def lcl (i : Nat) : List av := [vR 102 0, vR 0 0, vR 50 0, vI (nI i)]
def LB (S : Sto) (i : Nat) (r : Res) : Prop := ∃ S2, r = run 287 0 1470 [vR 102 0, vR 0 0, vR 50 0, vI (nI i)] [] S2 ∧ kp S S2 ∧ ∃ A R, Inv S2 A R
section LBs
variable {S : Sto} {A : Tn} {R : Rs} {L i : Nat}
theorem lb_person (h : Inv S A R) (hs : S.1 103 0 0 = nI L) (hi : i + 6 ≤ L) (hL : L ≤ 3072) : LB S i (run 287 0 200 [vR 102 0, vR 0 0, vR 50 0, vI (nI i)] [] S) := by
  obtain ⟨v, S1, S2, c1, m1, hI⟩ := sl_person h (S.1 102 0 (i + 1))
  have k1 := call_k c1
  have k2 := call_k m1
  have k3 : S1.1 102 = S.1 102 := k1.1
  have k4 : S1.1 103 = S.1 103 := k1.2
  refine ⟨S2, ?_, kp_tr k1 k2, hI⟩
  simp (disch := omega) only [s287_200, s287_201, s287_202, s287_203, s287_204, s287_205, s287_206, s287_209, s287_210, s287_211, s287_212, s287_213, s287_214, s287_215, s287_218, q_0, q_1, q_2, q_3, q_4, q_5, q_6, q_7, q_8, q_9, q_10, q_11, q_12, q_13, q_14, q_16, q_20, q_23, q_24, q_32, q_42, q_43, q_45, q_47, q_48, q_50, q_57, q_59, q_60, q_61, q_62, q_63, q_64, q_66, q_91, q_93, q_97, q_99, q_122, q_144, q_255, q_256, q_300, q_380, q_400, q_620, q_999, q_1000, q_4095, q_4096, q_9999, q_65536, q_99999, q_31, nI_add, pk_mul, nE, nL, nT, nM31, nShl, ib_nI, nI_clamp, bI_n0, bI_n1, bI_nar, uI_r, uI_l, uL_r, uL_i, uL_p, uA_r, uA_l, bV_some, bU_some, nar_n0, nar_n1, and_self, and_true, true_and, and_false, false_and, if_true, if_false, eq_self, Bool.false_eq_true, Bool.true_eq_false, not_true_eq_false, not_false_eq_true, ↓reduceIte, nlT, nlF, ntT, ntF, neT, neF, ieT, ieF, decide_true, decide_false, Bool.not_true, Bool.not_false, Bool.and_true, Bool.true_and, Bool.and_false, Bool.false_and, Bool.or_true, Bool.true_or, Bool.or_false, Bool.false_or, hs, c1, k3, k4, m1]
theorem lb_like (h : Inv S A R) (hs : S.1 103 0 0 = nI L) (hi : i + 6 ≤ L) (hL : L ≤ 3072) : LB S i (run 287 0 223 [vR 102 0, vR 0 0, vR 50 0, vI (nI i)] [] S) := by
  obtain ⟨v, S1, S2, c1, m1, hI⟩ := sl_like h (S.1 102 0 (i + 1)) (S.1 102 0 (i + 2)) (S.1 102 0 (i + 3))
  have k1 := call_k c1
  have k2 := call_k m1
  have k3 : S1.1 102 = S.1 102 := k1.1
  have k4 : S1.1 103 = S.1 103 := k1.2
  refine ⟨S2, ?_, kp_tr k1 k2, hI⟩
  simp (disch := omega) only [s287_223, s287_224, s287_225, s287_226, s287_227, s287_228, s287_229, s287_230, s287_231, s287_232, s287_233, s287_234, s287_235, s287_236, s287_237, s287_238, s287_239, s287_242, s287_243, s287_244, s287_245, s287_246, s287_247, s287_248, s287_249, s287_250, s287_251, s287_252, s287_253, s287_254, s287_255, s287_256, s287_257, s287_258, s287_261, q_0, q_1, q_2, q_3, q_4, q_5, q_6, q_7, q_8, q_9, q_10, q_11, q_12, q_13, q_14, q_16, q_20, q_23, q_24, q_32, q_42, q_43, q_45, q_47, q_48, q_50, q_57, q_59, q_60, q_61, q_62, q_63, q_64, q_66, q_91, q_93, q_97, q_99, q_122, q_144, q_255, q_256, q_300, q_380, q_400, q_620, q_999, q_1000, q_4095, q_4096, q_9999, q_65536, q_99999, q_31, nI_add, pk_mul, nE, nL, nT, nM31, nShl, ib_nI, nI_clamp, bI_n0, bI_n1, bI_nar, uI_r, uI_l, uL_r, uL_i, uL_p, uA_r, uA_l, bV_some, bU_some, nar_n0, nar_n1, and_self, and_true, true_and, and_false, false_and, if_true, if_false, eq_self, Bool.false_eq_true, Bool.true_eq_false, not_true_eq_false, not_false_eq_true, ↓reduceIte, nlT, nlF, ntT, ntF, neT, neF, ieT, ieF, decide_true, decide_false, Bool.not_true, Bool.not_false, Bool.and_true, Bool.true_and, Bool.and_false, Bool.false_and, Bool.or_true, Bool.true_or, Bool.or_false, Bool.false_or, hs, c1, k3, k4, m1]
theorem lb_quar (h : Inv S A R) (hs : S.1 103 0 0 = nI L) (hi : i + 6 ≤ L) (hL : L ≤ 3072) : LB S i (run 287 0 266 [vR 102 0, vR 0 0, vR 50 0, vI (nI i)] [] S) := by
  by_cases hz : S.1 102 0 (i + 3) = nI 0
  · obtain ⟨v, S1, S2, c1, m1, hI⟩ := sl_quar h (S.1 102 0 (i + 1)) (S.1 102 0 (i + 2)) false
    have k1 := call_k c1
    have k2 := call_k m1
    have k3 : S1.1 102 = S.1 102 := k1.1
    have k4 : S1.1 103 = S.1 103 := k1.2
    have c1' : call 95 0 [vR 0 0, vI (S.1 102 0 (i + 1)), vI (S.1 102 0 (i + 2)), vI (nI 0)] S = some (some (vI v), S1) := c1
    have m1' : call 141 0 [vR 50 0, vI (S.1 102 0 (i + 1)), vI (S.1 102 0 (i + 2)), vI (nI 0)] S1 = some (some (vI v), S2) := m1
    refine ⟨S2, ?_, kp_tr k1 k2, hI⟩
    simp (disch := omega) only [s287_266, s287_267, s287_268, s287_269, s287_270, s287_271, s287_272, s287_273, s287_274, s287_275, s287_276, s287_277, s287_278, s287_279, s287_280, s287_281, s287_282, s287_285, s287_286, s287_289, s287_290, s287_293, s287_294, s287_295, s287_296, s287_297, s287_298, s287_299, s287_300, s287_301, s287_302, s287_303, s287_304, s287_305, s287_306, s287_307, s287_308, s287_309, s287_312, s287_313, s287_316, s287_317, s287_320, q_0, q_1, q_2, q_3, q_4, q_5, q_6, q_7, q_8, q_9, q_10, q_11, q_12, q_13, q_14, q_16, q_20, q_23, q_24, q_32, q_42, q_43, q_45, q_47, q_48, q_50, q_57, q_59, q_60, q_61, q_62, q_63, q_64, q_66, q_91, q_93, q_97, q_99, q_122, q_144, q_255, q_256, q_300, q_380, q_400, q_620, q_999, q_1000, q_4095, q_4096, q_9999, q_65536, q_99999, q_31, nI_add, pk_mul, nE, nL, nT, nM31, nShl, ib_nI, nI_clamp, bI_n0, bI_n1, bI_nar, uI_r, uI_l, uL_r, uL_i, uL_p, uA_r, uA_l, bV_some, bU_some, nar_n0, nar_n1, and_self, and_true, true_and, and_false, false_and, if_true, if_false, eq_self, Bool.false_eq_true, Bool.true_eq_false, not_true_eq_false, not_false_eq_true, ↓reduceIte, nlT, nlF, ntT, ntF, neT, neF, ieT, ieF, decide_true, decide_false, Bool.not_true, Bool.not_false, Bool.and_true, Bool.true_and, Bool.and_false, Bool.false_and, Bool.or_true, Bool.true_or, Bool.or_false, Bool.false_or, hs, hz, c1', k3, k4, m1']
  · obtain ⟨v, S1, S2, c1, m1, hI⟩ := sl_quar h (S.1 102 0 (i + 1)) (S.1 102 0 (i + 2)) true
    have k1 := call_k c1
    have k2 := call_k m1
    have k3 : S1.1 102 = S.1 102 := k1.1
    have k4 : S1.1 103 = S.1 103 := k1.2
    have c1' : call 95 0 [vR 0 0, vI (S.1 102 0 (i + 1)), vI (S.1 102 0 (i + 2)), vI (nI 1)] S = some (some (vI v), S1) := c1
    have m1' : call 141 0 [vR 50 0, vI (S.1 102 0 (i + 1)), vI (S.1 102 0 (i + 2)), vI (nI 1)] S1 = some (some (vI v), S2) := m1
    refine ⟨S2, ?_, kp_tr k1 k2, hI⟩
    simp (disch := omega) only [s287_266, s287_267, s287_268, s287_269, s287_270, s287_271, s287_272, s287_273, s287_274, s287_275, s287_276, s287_277, s287_278, s287_279, s287_280, s287_281, s287_282, s287_285, s287_286, s287_289, s287_290, s287_293, s287_294, s287_295, s287_296, s287_297, s287_298, s287_299, s287_300, s287_301, s287_302, s287_303, s287_304, s287_305, s287_306, s287_307, s287_308, s287_309, s287_312, s287_313, s287_316, s287_317, s287_320, q_0, q_1, q_2, q_3, q_4, q_5, q_6, q_7, q_8, q_9, q_10, q_11, q_12, q_13, q_14, q_16, q_20, q_23, q_24, q_32, q_42, q_43, q_45, q_47, q_48, q_50, q_57, q_59, q_60, q_61, q_62, q_63, q_64, q_66, q_91, q_93, q_97, q_99, q_122, q_144, q_255, q_256, q_300, q_380, q_400, q_620, q_999, q_1000, q_4095, q_4096, q_9999, q_65536, q_99999, q_31, nI_add, pk_mul, nE, nL, nT, nM31, nShl, ib_nI, nI_clamp, bI_n0, bI_n1, bI_nar, uI_r, uI_l, uL_r, uL_i, uL_p, uA_r, uA_l, bV_some, bU_some, nar_n0, nar_n1, and_self, and_true, true_and, and_false, false_and, if_true, if_false, eq_self, Bool.false_eq_true, Bool.true_eq_false, not_true_eq_false, not_false_eq_true, ↓reduceIte, nlT, nlF, ntT, ntF, neT, neF, ieT, ieF, decide_true, decide_false, Bool.not_true, Bool.not_false, Bool.and_true, Bool.true_and, Bool.and_false, Bool.false_and, Bool.or_true, Bool.true_or, Bool.or_false, Bool.false_or, hs, hz, c1', k3, k4, m1']
theorem lb_heir (h : Inv S A R) (hs : S.1 103 0 0 = nI L) (hi : i + 6 ≤ L) (hL : L ≤ 3072) : LB S i (run 287 0 325 [vR 102 0, vR 0 0, vR 50 0, vI (nI i)] [] S) := by
  obtain ⟨v, S1, S2, c1, m1, hI⟩ := sl_heir h (S.1 102 0 (i + 1)) (S.1 102 0 (i + 2))
  have k1 := call_k c1
  have k2 := call_k m1
  have k3 : S1.1 102 = S.1 102 := k1.1
  have k4 : S1.1 103 = S.1 103 := k1.2
  refine ⟨S2, ?_, kp_tr k1 k2, hI⟩
  simp (disch := omega) only [s287_325, s287_326, s287_327, s287_328, s287_329, s287_330, s287_331, s287_332, s287_333, s287_334, s287_335, s287_336, s287_339, s287_340, s287_341, s287_342, s287_343, s287_344, s287_345, s287_346, s287_347, s287_348, s287_349, s287_350, s287_353, q_0, q_1, q_2, q_3, q_4, q_5, q_6, q_7, q_8, q_9, q_10, q_11, q_12, q_13, q_14, q_16, q_20, q_23, q_24, q_32, q_42, q_43, q_45, q_47, q_48, q_50, q_57, q_59, q_60, q_61, q_62, q_63, q_64, q_66, q_91, q_93, q_97, q_99, q_122, q_144, q_255, q_256, q_300, q_380, q_400, q_620, q_999, q_1000, q_4095, q_4096, q_9999, q_65536, q_99999, q_31, nI_add, pk_mul, nE, nL, nT, nM31, nShl, ib_nI, nI_clamp, bI_n0, bI_n1, bI_nar, uI_r, uI_l, uL_r, uL_i, uL_p, uA_r, uA_l, bV_some, bU_some, nar_n0, nar_n1, and_self, and_true, true_and, and_false, false_and, if_true, if_false, eq_self, Bool.false_eq_true, Bool.true_eq_false, not_true_eq_false, not_false_eq_true, ↓reduceIte, nlT, nlF, ntT, ntF, neT, neF, ieT, ieF, decide_true, decide_false, Bool.not_true, Bool.not_false, Bool.and_true, Bool.true_and, Bool.and_false, Bool.false_and, Bool.or_true, Bool.true_or, Bool.or_false, Bool.false_or, hs, c1, k3, k4, m1]
theorem lb_thing (h : Inv S A R) (hs : S.1 103 0 0 = nI L) (hi : i + 6 ≤ L) (hL : L ≤ 3072) : LB S i (run 287 0 358 [vR 102 0, vR 0 0, vR 50 0, vI (nI i)] [] S) := by
  obtain ⟨v, S1, S2, c1, m1, hI⟩ := sl_thing h (S.1 102 0 (i + 1)) (S.1 102 0 (i + 2)) (S.1 102 0 (i + 3))
  have k1 := call_k c1
  have k2 := call_k m1
  have k3 : S1.1 102 = S.1 102 := k1.1
  have k4 : S1.1 103 = S.1 103 := k1.2
  refine ⟨S2, ?_, kp_tr k1 k2, hI⟩
  simp (disch := omega) only [s287_358, s287_359, s287_360, s287_361, s287_362, s287_363, s287_364, s287_365, s287_366, s287_367, s287_368, s287_369, s287_370, s287_371, s287_372, s287_373, s287_374, s287_377, s287_378, s287_379, s287_380, s287_381, s287_382, s287_383, s287_384, s287_385, s287_386, s287_387, s287_388, s287_389, s287_390, s287_391, s287_392, s287_393, s287_396, q_0, q_1, q_2, q_3, q_4, q_5, q_6, q_7, q_8, q_9, q_10, q_11, q_12, q_13, q_14, q_16, q_20, q_23, q_24, q_32, q_42, q_43, q_45, q_47, q_48, q_50, q_57, q_59, q_60, q_61, q_62, q_63, q_64, q_66, q_91, q_93, q_97, q_99, q_122, q_144, q_255, q_256, q_300, q_380, q_400, q_620, q_999, q_1000, q_4095, q_4096, q_9999, q_65536, q_99999, q_31, nI_add, pk_mul, nE, nL, nT, nM31, nShl, ib_nI, nI_clamp, bI_n0, bI_n1, bI_nar, uI_r, uI_l, uL_r, uL_i, uL_p, uA_r, uA_l, bV_some, bU_some, nar_n0, nar_n1, and_self, and_true, true_and, and_false, false_and, if_true, if_false, eq_self, Bool.false_eq_true, Bool.true_eq_false, not_true_eq_false, not_false_eq_true, ↓reduceIte, nlT, nlF, ntT, ntF, neT, neF, ieT, ieF, decide_true, decide_false, Bool.not_true, Bool.not_false, Bool.and_true, Bool.true_and, Bool.and_false, Bool.false_and, Bool.or_true, Bool.true_or, Bool.or_false, Bool.false_or, hs, c1, k3, k4, m1]
theorem lb_work (h : Inv S A R) (hs : S.1 103 0 0 = nI L) (hi : i + 6 ≤ L) (hL : L ≤ 3072) : LB S i (run 287 0 401 [vR 102 0, vR 0 0, vR 50 0, vI (nI i)] [] S) := by
  obtain ⟨v, S1, S2, c1, m1, hI⟩ := sl_work h (S.1 102 0 (i + 1)) (S.1 102 0 (i + 2)) (S.1 102 0 (i + 3)) (S.1 102 0 (i + 4))
  have k1 := call_k c1
  have k2 := call_k m1
  have k3 : S1.1 102 = S.1 102 := k1.1
  have k4 : S1.1 103 = S.1 103 := k1.2
  refine ⟨S2, ?_, kp_tr k1 k2, hI⟩
  simp (disch := omega) only [s287_401, s287_402, s287_403, s287_404, s287_405, s287_406, s287_407, s287_408, s287_409, s287_410, s287_411, s287_412, s287_413, s287_414, s287_415, s287_416, s287_417, s287_418, s287_419, s287_420, s287_421, s287_422, s287_425, s287_426, s287_427, s287_428, s287_429, s287_430, s287_431, s287_432, s287_433, s287_434, s287_435, s287_436, s287_437, s287_438, s287_439, s287_440, s287_441, s287_442, s287_443, s287_444, s287_445, s287_446, s287_449, q_0, q_1, q_2, q_3, q_4, q_5, q_6, q_7, q_8, q_9, q_10, q_11, q_12, q_13, q_14, q_16, q_20, q_23, q_24, q_32, q_42, q_43, q_45, q_47, q_48, q_50, q_57, q_59, q_60, q_61, q_62, q_63, q_64, q_66, q_91, q_93, q_97, q_99, q_122, q_144, q_255, q_256, q_300, q_380, q_400, q_620, q_999, q_1000, q_4095, q_4096, q_9999, q_65536, q_99999, q_31, nI_add, pk_mul, nE, nL, nT, nM31, nShl, ib_nI, nI_clamp, bI_n0, bI_n1, bI_nar, uI_r, uI_l, uL_r, uL_i, uL_p, uA_r, uA_l, bV_some, bU_some, nar_n0, nar_n1, and_self, and_true, true_and, and_false, false_and, if_true, if_false, eq_self, Bool.false_eq_true, Bool.true_eq_false, not_true_eq_false, not_false_eq_true, ↓reduceIte, nlT, nlF, ntT, ntF, neT, neF, ieT, ieF, decide_true, decide_false, Bool.not_true, Bool.not_false, Bool.and_true, Bool.true_and, Bool.and_false, Bool.false_and, Bool.or_true, Bool.true_or, Bool.or_false, Bool.false_or, hs, c1, k3, k4, m1]
theorem lb_feed (h : Inv S A R) (hs : S.1 103 0 0 = nI L) (hi : i + 6 ≤ L) (hL : L ≤ 3072) : LB S i (run 287 0 454 [vR 102 0, vR 0 0, vR 50 0, vI (nI i)] [] S) := by
  obtain ⟨v, S1, S2, c1, m1, hI⟩ := sl_feed h (S.1 102 0 (i + 1)) (S.1 102 0 (i + 2)) (S.1 102 0 (i + 3)) (S.1 102 0 (i + 4)) (S.1 102 0 (i + 5))
  have k1 := call_k c1
  have k2 := call_k m1
  have k3 : S1.1 102 = S.1 102 := k1.1
  have k4 : S1.1 103 = S.1 103 := k1.2
  refine ⟨S2, ?_, kp_tr k1 k2, hI⟩
  simp (disch := omega) only [s287_454, s287_455, s287_456, s287_457, s287_458, s287_459, s287_460, s287_461, s287_462, s287_463, s287_464, s287_465, s287_466, s287_467, s287_468, s287_469, s287_470, s287_471, s287_472, s287_473, s287_474, s287_475, s287_476, s287_477, s287_478, s287_479, s287_480, s287_483, s287_484, s287_485, s287_486, s287_487, s287_488, s287_489, s287_490, s287_491, s287_492, s287_493, s287_494, s287_495, s287_496, s287_497, s287_498, s287_499, s287_500, s287_501, s287_502, s287_503, s287_504, s287_505, s287_506, s287_507, s287_508, s287_509, s287_512, q_0, q_1, q_2, q_3, q_4, q_5, q_6, q_7, q_8, q_9, q_10, q_11, q_12, q_13, q_14, q_16, q_20, q_23, q_24, q_32, q_42, q_43, q_45, q_47, q_48, q_50, q_57, q_59, q_60, q_61, q_62, q_63, q_64, q_66, q_91, q_93, q_97, q_99, q_122, q_144, q_255, q_256, q_300, q_380, q_400, q_620, q_999, q_1000, q_4095, q_4096, q_9999, q_65536, q_99999, q_31, nI_add, pk_mul, nE, nL, nT, nM31, nShl, ib_nI, nI_clamp, bI_n0, bI_n1, bI_nar, uI_r, uI_l, uL_r, uL_i, uL_p, uA_r, uA_l, bV_some, bU_some, nar_n0, nar_n1, and_self, and_true, true_and, and_false, false_and, if_true, if_false, eq_self, Bool.false_eq_true, Bool.true_eq_false, not_true_eq_false, not_false_eq_true, ↓reduceIte, nlT, nlF, ntT, ntF, neT, neF, ieT, ieF, decide_true, decide_false, Bool.not_true, Bool.not_false, Bool.and_true, Bool.true_and, Bool.and_false, Bool.false_and, Bool.or_true, Bool.true_or, Bool.or_false, Bool.false_or, hs, c1, k3, k4, m1]
theorem lb_end (h : Inv S A R) (hs : S.1 103 0 0 = nI L) (hi : i + 6 ≤ L) (hL : L ≤ 3072) : LB S i (run 287 0 517 [vR 102 0, vR 0 0, vR 50 0, vI (nI i)] [] S) := by
  obtain ⟨v, S1, S2, c1, m1, hI⟩ := sl_end h (S.1 102 0 (i + 1))
  have k1 := call_k c1
  have k2 := call_k m1
  have k3 : S1.1 102 = S.1 102 := k1.1
  have k4 : S1.1 103 = S.1 103 := k1.2
  refine ⟨S2, ?_, kp_tr k1 k2, hI⟩
  simp (disch := omega) only [s287_517, s287_518, s287_519, s287_520, s287_521, s287_522, s287_523, s287_526, s287_527, s287_528, s287_529, s287_530, s287_531, s287_532, s287_535, q_0, q_1, q_2, q_3, q_4, q_5, q_6, q_7, q_8, q_9, q_10, q_11, q_12, q_13, q_14, q_16, q_20, q_23, q_24, q_32, q_42, q_43, q_45, q_47, q_48, q_50, q_57, q_59, q_60, q_61, q_62, q_63, q_64, q_66, q_91, q_93, q_97, q_99, q_122, q_144, q_255, q_256, q_300, q_380, q_400, q_620, q_999, q_1000, q_4095, q_4096, q_9999, q_65536, q_99999, q_31, nI_add, pk_mul, nE, nL, nT, nM31, nShl, ib_nI, nI_clamp, bI_n0, bI_n1, bI_nar, uI_r, uI_l, uL_r, uL_i, uL_p, uA_r, uA_l, bV_some, bU_some, nar_n0, nar_n1, and_self, and_true, true_and, and_false, false_and, if_true, if_false, eq_self, Bool.false_eq_true, Bool.true_eq_false, not_true_eq_false, not_false_eq_true, ↓reduceIte, nlT, nlF, ntT, ntF, neT, neF, ieT, ieF, decide_true, decide_false, Bool.not_true, Bool.not_false, Bool.and_true, Bool.true_and, Bool.and_false, Bool.false_and, Bool.or_true, Bool.true_or, Bool.or_false, Bool.false_or, hs, c1, k3, k4, m1]
theorem lb_law (h : Inv S A R) (hs : S.1 103 0 0 = nI L) (hi : i + 6 ≤ L) (hL : L ≤ 3072) : LB S i (run 287 0 540 [vR 102 0, vR 0 0, vR 50 0, vI (nI i)] [] S) := by
  obtain ⟨v, S1, S2, c1, m1, hI⟩ := sl_law h
  have k1 := call_k c1
  have k2 := call_k m1
  have k3 : S1.1 102 = S.1 102 := k1.1
  have k4 : S1.1 103 = S.1 103 := k1.2
  refine ⟨S2, ?_, kp_tr k1 k2, hI⟩
  simp (disch := omega) only [s287_540, s287_541, s287_544, s287_545, s287_548, q_0, q_1, q_2, q_3, q_4, q_5, q_6, q_7, q_8, q_9, q_10, q_11, q_12, q_13, q_14, q_16, q_20, q_23, q_24, q_32, q_42, q_43, q_45, q_47, q_48, q_50, q_57, q_59, q_60, q_61, q_62, q_63, q_64, q_66, q_91, q_93, q_97, q_99, q_122, q_144, q_255, q_256, q_300, q_380, q_400, q_620, q_999, q_1000, q_4095, q_4096, q_9999, q_65536, q_99999, q_31, nI_add, pk_mul, nE, nL, nT, nM31, nShl, ib_nI, nI_clamp, bI_n0, bI_n1, bI_nar, uI_r, uI_l, uL_r, uL_i, uL_p, uA_r, uA_l, bV_some, bU_some, nar_n0, nar_n1, and_self, and_true, true_and, and_false, false_and, if_true, if_false, eq_self, Bool.false_eq_true, Bool.true_eq_false, not_true_eq_false, not_false_eq_true, ↓reduceIte, nlT, nlF, ntT, ntF, neT, neF, ieT, ieF, decide_true, decide_false, Bool.not_true, Bool.not_false, Bool.and_true, Bool.true_and, Bool.and_false, Bool.false_and, Bool.or_true, Bool.true_or, Bool.or_false, Bool.false_or, hs, c1, k3, k4, m1]
theorem lb_of (h : Inv S A R) (hs : S.1 103 0 0 = nI L) (hi : i + 6 ≤ L) (hL : L ≤ 3072) : LB S i (run 287 0 553 [vR 102 0, vR 0 0, vR 50 0, vI (nI i)] [] S) := by
  obtain ⟨v, S1, S2, c1, m1, hI⟩ := sl_of h (S.1 102 0 (i + 1)) (S.1 102 0 (i + 2))
  have k1 := call_k c1
  have k2 := call_k m1
  have k3 : S1.1 102 = S.1 102 := k1.1
  have k4 : S1.1 103 = S.1 103 := k1.2
  refine ⟨S2, ?_, kp_tr k1 k2, hI⟩
  simp (disch := omega) only [s287_553, s287_554, s287_555, s287_556, s287_557, s287_558, s287_559, s287_560, s287_561, s287_562, s287_563, s287_564, s287_567, s287_568, s287_569, s287_570, s287_571, s287_572, s287_573, s287_574, s287_575, s287_576, s287_577, s287_578, s287_581, q_0, q_1, q_2, q_3, q_4, q_5, q_6, q_7, q_8, q_9, q_10, q_11, q_12, q_13, q_14, q_16, q_20, q_23, q_24, q_32, q_42, q_43, q_45, q_47, q_48, q_50, q_57, q_59, q_60, q_61, q_62, q_63, q_64, q_66, q_91, q_93, q_97, q_99, q_122, q_144, q_255, q_256, q_300, q_380, q_400, q_620, q_999, q_1000, q_4095, q_4096, q_9999, q_65536, q_99999, q_31, nI_add, pk_mul, nE, nL, nT, nM31, nShl, ib_nI, nI_clamp, bI_n0, bI_n1, bI_nar, uI_r, uI_l, uL_r, uL_i, uL_p, uA_r, uA_l, bV_some, bU_some, nar_n0, nar_n1, and_self, and_true, true_and, and_false, false_and, if_true, if_false, eq_self, Bool.false_eq_true, Bool.true_eq_false, not_true_eq_false, not_false_eq_true, ↓reduceIte, nlT, nlF, ntT, ntF, neT, neF, ieT, ieF, decide_true, decide_false, Bool.not_true, Bool.not_false, Bool.and_true, Bool.true_and, Bool.and_false, Bool.false_and, Bool.or_true, Bool.true_or, Bool.or_false, Bool.false_or, hs, c1, k3, k4, m1]
theorem lb_two (h : Inv S A R) (hs : S.1 103 0 0 = nI L) (hi : i + 6 ≤ L) (hL : L ≤ 3072) : LB S i (run 287 0 586 [vR 102 0, vR 0 0, vR 50 0, vI (nI i)] [] S) := by
  obtain ⟨v, S1, S2, c1, m1, hI⟩ := sl_two h (S.1 102 0 (i + 1)) (S.1 102 0 (i + 2)) (S.1 102 0 (i + 3))
  have k1 := call_k c1
  have k2 := call_k m1
  have k3 : S1.1 102 = S.1 102 := k1.1
  have k4 : S1.1 103 = S.1 103 := k1.2
  refine ⟨S2, ?_, kp_tr k1 k2, hI⟩
  simp (disch := omega) only [s287_586, s287_587, s287_588, s287_589, s287_590, s287_591, s287_592, s287_593, s287_594, s287_595, s287_596, s287_597, s287_598, s287_599, s287_600, s287_601, s287_602, s287_605, s287_606, s287_607, s287_608, s287_609, s287_610, s287_611, s287_612, s287_613, s287_614, s287_615, s287_616, s287_617, s287_618, s287_619, s287_620, s287_621, s287_624, q_0, q_1, q_2, q_3, q_4, q_5, q_6, q_7, q_8, q_9, q_10, q_11, q_12, q_13, q_14, q_16, q_20, q_23, q_24, q_32, q_42, q_43, q_45, q_47, q_48, q_50, q_57, q_59, q_60, q_61, q_62, q_63, q_64, q_66, q_91, q_93, q_97, q_99, q_122, q_144, q_255, q_256, q_300, q_380, q_400, q_620, q_999, q_1000, q_4095, q_4096, q_9999, q_65536, q_99999, q_31, nI_add, pk_mul, nE, nL, nT, nM31, nShl, ib_nI, nI_clamp, bI_n0, bI_n1, bI_nar, uI_r, uI_l, uL_r, uL_i, uL_p, uA_r, uA_l, bV_some, bU_some, nar_n0, nar_n1, and_self, and_true, true_and, and_false, false_and, if_true, if_false, eq_self, Bool.false_eq_true, Bool.true_eq_false, not_true_eq_false, not_false_eq_true, ↓reduceIte, nlT, nlF, ntT, ntF, neT, neF, ieT, ieF, decide_true, decide_false, Bool.not_true, Bool.not_false, Bool.and_true, Bool.true_and, Bool.and_false, Bool.false_and, Bool.or_true, Bool.true_or, Bool.or_false, Bool.false_or, hs, c1, k3, k4, m1]
theorem lb_things (h : Inv S A R) (hs : S.1 103 0 0 = nI L) (hi : i + 6 ≤ L) (hL : L ≤ 3072) : LB S i (run 287 0 629 [vR 102 0, vR 0 0, vR 50 0, vI (nI i)] [] S) := by
  obtain ⟨v, S1, S2, c1, m1, hI⟩ := sl_things h (S.1 102 0 (i + 1)) (S.1 102 0 (i + 2))
  have k1 := call_k c1
  have k2 := call_k m1
  have k3 : S1.1 102 = S.1 102 := k1.1
  have k4 : S1.1 103 = S.1 103 := k1.2
  refine ⟨S2, ?_, kp_tr k1 k2, hI⟩
  simp (disch := omega) only [s287_629, s287_630, s287_631, s287_632, s287_633, s287_634, s287_635, s287_636, s287_637, s287_638, s287_639, s287_640, s287_643, s287_644, s287_645, s287_646, s287_647, s287_648, s287_649, s287_650, s287_651, s287_652, s287_653, s287_654, s287_657, q_0, q_1, q_2, q_3, q_4, q_5, q_6, q_7, q_8, q_9, q_10, q_11, q_12, q_13, q_14, q_16, q_20, q_23, q_24, q_32, q_42, q_43, q_45, q_47, q_48, q_50, q_57, q_59, q_60, q_61, q_62, q_63, q_64, q_66, q_91, q_93, q_97, q_99, q_122, q_144, q_255, q_256, q_300, q_380, q_400, q_620, q_999, q_1000, q_4095, q_4096, q_9999, q_65536, q_99999, q_31, nI_add, pk_mul, nE, nL, nT, nM31, nShl, ib_nI, nI_clamp, bI_n0, bI_n1, bI_nar, uI_r, uI_l, uL_r, uL_i, uL_p, uA_r, uA_l, bV_some, bU_some, nar_n0, nar_n1, and_self, and_true, true_and, and_false, false_and, if_true, if_false, eq_self, Bool.false_eq_true, Bool.true_eq_false, not_true_eq_false, not_false_eq_true, ↓reduceIte, nlT, nlF, ntT, ntF, neT, neF, ieT, ieF, decide_true, decide_false, Bool.not_true, Bool.not_false, Bool.and_true, Bool.true_and, Bool.and_false, Bool.false_and, Bool.or_true, Bool.true_or, Bool.or_false, Bool.false_or, hs, c1, k3, k4, m1]
theorem lb_works (h : Inv S A R) (hs : S.1 103 0 0 = nI L) (hi : i + 6 ≤ L) (hL : L ≤ 3072) : LB S i (run 287 0 662 [vR 102 0, vR 0 0, vR 50 0, vI (nI i)] [] S) := by
  obtain ⟨v, S1, S2, c1, m1, hI⟩ := sl_works h (S.1 102 0 (i + 1)) (S.1 102 0 (i + 2))
  have k1 := call_k c1
  have k2 := call_k m1
  have k3 : S1.1 102 = S.1 102 := k1.1
  have k4 : S1.1 103 = S.1 103 := k1.2
  refine ⟨S2, ?_, kp_tr k1 k2, hI⟩
  simp (disch := omega) only [s287_662, s287_663, s287_664, s287_665, s287_666, s287_667, s287_668, s287_669, s287_670, s287_671, s287_672, s287_673, s287_676, s287_677, s287_678, s287_679, s287_680, s287_681, s287_682, s287_683, s287_684, s287_685, s287_686, s287_687, s287_690, q_0, q_1, q_2, q_3, q_4, q_5, q_6, q_7, q_8, q_9, q_10, q_11, q_12, q_13, q_14, q_16, q_20, q_23, q_24, q_32, q_42, q_43, q_45, q_47, q_48, q_50, q_57, q_59, q_60, q_61, q_62, q_63, q_64, q_66, q_91, q_93, q_97, q_99, q_122, q_144, q_255, q_256, q_300, q_380, q_400, q_620, q_999, q_1000, q_4095, q_4096, q_9999, q_65536, q_99999, q_31, nI_add, pk_mul, nE, nL, nT, nM31, nShl, ib_nI, nI_clamp, bI_n0, bI_n1, bI_nar, uI_r, uI_l, uL_r, uL_i, uL_p, uA_r, uA_l, bV_some, bU_some, nar_n0, nar_n1, and_self, and_true, true_and, and_false, false_and, if_true, if_false, eq_self, Bool.false_eq_true, Bool.true_eq_false, not_true_eq_false, not_false_eq_true, ↓reduceIte, nlT, nlF, ntT, ntF, neT, neF, ieT, ieF, decide_true, decide_false, Bool.not_true, Bool.not_false, Bool.and_true, Bool.true_and, Bool.and_false, Bool.false_and, Bool.or_true, Bool.true_or, Bool.or_false, Bool.false_or, hs, c1, k3, k4, m1]
theorem lb_nod (h : Inv S A R) (hs : S.1 103 0 0 = nI L) (hi : i + 6 ≤ L) (hL : L ≤ 3072) : LB S i (run 287 0 695 [vR 102 0, vR 0 0, vR 50 0, vI (nI i)] [] S) := by
  obtain ⟨v, S1, S2, c1, m1, hI⟩ := sl_nod h (S.1 102 0 (i + 1)) (S.1 102 0 (i + 2)) (S.1 102 0 (i + 3)) (S.1 102 0 (i + 4))
  have k1 := call_k c1
  have k2 := call_k m1
  have k3 : S1.1 102 = S.1 102 := k1.1
  have k4 : S1.1 103 = S.1 103 := k1.2
  refine ⟨S2, ?_, kp_tr k1 k2, hI⟩
  simp (disch := omega) only [s287_695, s287_696, s287_697, s287_698, s287_699, s287_700, s287_701, s287_702, s287_703, s287_704, s287_705, s287_706, s287_707, s287_708, s287_709, s287_710, s287_711, s287_712, s287_713, s287_714, s287_715, s287_716, s287_719, s287_720, s287_721, s287_722, s287_723, s287_724, s287_725, s287_726, s287_727, s287_728, s287_729, s287_730, s287_731, s287_732, s287_733, s287_734, s287_735, s287_736, s287_737, s287_738, s287_739, s287_740, s287_743, q_0, q_1, q_2, q_3, q_4, q_5, q_6, q_7, q_8, q_9, q_10, q_11, q_12, q_13, q_14, q_16, q_20, q_23, q_24, q_32, q_42, q_43, q_45, q_47, q_48, q_50, q_57, q_59, q_60, q_61, q_62, q_63, q_64, q_66, q_91, q_93, q_97, q_99, q_122, q_144, q_255, q_256, q_300, q_380, q_400, q_620, q_999, q_1000, q_4095, q_4096, q_9999, q_65536, q_99999, q_31, nI_add, pk_mul, nE, nL, nT, nM31, nShl, ib_nI, nI_clamp, bI_n0, bI_n1, bI_nar, uI_r, uI_l, uL_r, uL_i, uL_p, uA_r, uA_l, bV_some, bU_some, nar_n0, nar_n1, and_self, and_true, true_and, and_false, false_and, if_true, if_false, eq_self, Bool.false_eq_true, Bool.true_eq_false, not_true_eq_false, not_false_eq_true, ↓reduceIte, nlT, nlF, ntT, ntF, neT, neF, ieT, ieF, decide_true, decide_false, Bool.not_true, Bool.not_false, Bool.and_true, Bool.true_and, Bool.and_false, Bool.false_and, Bool.or_true, Bool.true_or, Bool.or_false, Bool.false_or, hs, c1, k3, k4, m1]
theorem lb_had (h : Inv S A R) (hs : S.1 103 0 0 = nI L) (hi : i + 6 ≤ L) (hL : L ≤ 3072) : LB S i (run 287 0 748 [vR 102 0, vR 0 0, vR 50 0, vI (nI i)] [] S) := by
  obtain ⟨v, S1, S2, c1, m1, hI⟩ := sl_had h (S.1 102 0 (i + 1)) (S.1 102 0 (i + 2)) (S.1 102 0 (i + 3))
  have k1 := call_k c1
  have k2 := call_k m1
  have k3 : S1.1 102 = S.1 102 := k1.1
  have k4 : S1.1 103 = S.1 103 := k1.2
  refine ⟨S2, ?_, kp_tr k1 k2, hI⟩
  simp (disch := omega) only [s287_748, s287_749, s287_750, s287_751, s287_752, s287_753, s287_754, s287_755, s287_756, s287_757, s287_758, s287_759, s287_760, s287_761, s287_762, s287_763, s287_764, s287_767, s287_768, s287_769, s287_770, s287_771, s287_772, s287_773, s287_774, s287_775, s287_776, s287_777, s287_778, s287_779, s287_780, s287_781, s287_782, s287_783, s287_786, q_0, q_1, q_2, q_3, q_4, q_5, q_6, q_7, q_8, q_9, q_10, q_11, q_12, q_13, q_14, q_16, q_20, q_23, q_24, q_32, q_42, q_43, q_45, q_47, q_48, q_50, q_57, q_59, q_60, q_61, q_62, q_63, q_64, q_66, q_91, q_93, q_97, q_99, q_122, q_144, q_255, q_256, q_300, q_380, q_400, q_620, q_999, q_1000, q_4095, q_4096, q_9999, q_65536, q_99999, q_31, nI_add, pk_mul, nE, nL, nT, nM31, nShl, ib_nI, nI_clamp, bI_n0, bI_n1, bI_nar, uI_r, uI_l, uL_r, uL_i, uL_p, uA_r, uA_l, bV_some, bU_some, nar_n0, nar_n1, and_self, and_true, true_and, and_false, false_and, if_true, if_false, eq_self, Bool.false_eq_true, Bool.true_eq_false, not_true_eq_false, not_false_eq_true, ↓reduceIte, nlT, nlF, ntT, ntF, neT, neF, ieT, ieF, decide_true, decide_false, Bool.not_true, Bool.not_false, Bool.and_true, Bool.true_and, Bool.and_false, Bool.false_and, Bool.or_true, Bool.true_or, Bool.or_false, Bool.false_or, hs, c1, k3, k4, m1]
theorem lb_can (h : Inv S A R) (hs : S.1 103 0 0 = nI L) (hi : i + 6 ≤ L) (hL : L ≤ 3072) : LB S i (run 287 0 791 [vR 102 0, vR 0 0, vR 50 0, vI (nI i)] [] S) := by
  obtain ⟨v, S1, S2, c1, m1, hI⟩ := sl_can h (S.1 102 0 (i + 1)) (S.1 102 0 (i + 2))
  have k1 := call_k c1
  have k2 := call_k m1
  have k3 : S1.1 102 = S.1 102 := k1.1
  have k4 : S1.1 103 = S.1 103 := k1.2
  refine ⟨S2, ?_, kp_tr k1 k2, hI⟩
  simp (disch := omega) only [s287_791, s287_792, s287_793, s287_794, s287_795, s287_796, s287_797, s287_798, s287_799, s287_800, s287_801, s287_802, s287_805, s287_806, s287_807, s287_808, s287_809, s287_810, s287_811, s287_812, s287_813, s287_814, s287_815, s287_816, s287_819, q_0, q_1, q_2, q_3, q_4, q_5, q_6, q_7, q_8, q_9, q_10, q_11, q_12, q_13, q_14, q_16, q_20, q_23, q_24, q_32, q_42, q_43, q_45, q_47, q_48, q_50, q_57, q_59, q_60, q_61, q_62, q_63, q_64, q_66, q_91, q_93, q_97, q_99, q_122, q_144, q_255, q_256, q_300, q_380, q_400, q_620, q_999, q_1000, q_4095, q_4096, q_9999, q_65536, q_99999, q_31, nI_add, pk_mul, nE, nL, nT, nM31, nShl, ib_nI, nI_clamp, bI_n0, bI_n1, bI_nar, uI_r, uI_l, uL_r, uL_i, uL_p, uA_r, uA_l, bV_some, bU_some, nar_n0, nar_n1, and_self, and_true, true_and, and_false, false_and, if_true, if_false, eq_self, Bool.false_eq_true, Bool.true_eq_false, not_true_eq_false, not_false_eq_true, ↓reduceIte, nlT, nlF, ntT, ntF, neT, neF, ieT, ieF, decide_true, decide_false, Bool.not_true, Bool.not_false, Bool.and_true, Bool.true_and, Bool.and_false, Bool.false_and, Bool.or_true, Bool.true_or, Bool.or_false, Bool.false_or, hs, c1, k3, k4, m1]
theorem lb_bars (h : Inv S A R) (hs : S.1 103 0 0 = nI L) (hi : i + 6 ≤ L) (hL : L ≤ 3072) : LB S i (run 287 0 824 [vR 102 0, vR 0 0, vR 50 0, vI (nI i)] [] S) := by
  obtain ⟨v, S1, S2, c1, m1, hI⟩ := sl_bars h (S.1 102 0 (i + 1)) (S.1 102 0 (i + 2))
  have k1 := call_k c1
  have k2 := call_k m1
  have k3 : S1.1 102 = S.1 102 := k1.1
  have k4 : S1.1 103 = S.1 103 := k1.2
  refine ⟨S2, ?_, kp_tr k1 k2, hI⟩
  simp (disch := omega) only [s287_824, s287_825, s287_826, s287_827, s287_828, s287_829, s287_830, s287_831, s287_832, s287_833, s287_834, s287_835, s287_838, s287_839, s287_840, s287_841, s287_842, s287_843, s287_844, s287_845, s287_846, s287_847, s287_848, s287_849, s287_852, q_0, q_1, q_2, q_3, q_4, q_5, q_6, q_7, q_8, q_9, q_10, q_11, q_12, q_13, q_14, q_16, q_20, q_23, q_24, q_32, q_42, q_43, q_45, q_47, q_48, q_50, q_57, q_59, q_60, q_61, q_62, q_63, q_64, q_66, q_91, q_93, q_97, q_99, q_122, q_144, q_255, q_256, q_300, q_380, q_400, q_620, q_999, q_1000, q_4095, q_4096, q_9999, q_65536, q_99999, q_31, nI_add, pk_mul, nE, nL, nT, nM31, nShl, ib_nI, nI_clamp, bI_n0, bI_n1, bI_nar, uI_r, uI_l, uL_r, uL_i, uL_p, uA_r, uA_l, bV_some, bU_some, nar_n0, nar_n1, and_self, and_true, true_and, and_false, false_and, if_true, if_false, eq_self, Bool.false_eq_true, Bool.true_eq_false, not_true_eq_false, not_false_eq_true, ↓reduceIte, nlT, nlF, ntT, ntF, neT, neF, ieT, ieF, decide_true, decide_false, Bool.not_true, Bool.not_false, Bool.and_true, Bool.true_and, Bool.and_false, Bool.false_and, Bool.or_true, Bool.true_or, Bool.or_false, Bool.false_or, hs, c1, k3, k4, m1]
theorem lb_does (h : Inv S A R) (hs : S.1 103 0 0 = nI L) (hi : i + 6 ≤ L) (hL : L ≤ 3072) : LB S i (run 287 0 857 [vR 102 0, vR 0 0, vR 50 0, vI (nI i)] [] S) := by
  obtain ⟨v, S1, S2, c1, m1, hI⟩ := sl_does h (S.1 102 0 (i + 1)) (S.1 102 0 (i + 2))
  have k1 := call_k c1
  have k2 := call_k m1
  have k3 : S1.1 102 = S.1 102 := k1.1
  have k4 : S1.1 103 = S.1 103 := k1.2
  refine ⟨S2, ?_, kp_tr k1 k2, hI⟩
  simp (disch := omega) only [s287_857, s287_858, s287_859, s287_860, s287_861, s287_862, s287_863, s287_864, s287_865, s287_866, s287_867, s287_868, s287_871, s287_872, s287_873, s287_874, s287_875, s287_876, s287_877, s287_878, s287_879, s287_880, s287_881, s287_882, s287_885, q_0, q_1, q_2, q_3, q_4, q_5, q_6, q_7, q_8, q_9, q_10, q_11, q_12, q_13, q_14, q_16, q_20, q_23, q_24, q_32, q_42, q_43, q_45, q_47, q_48, q_50, q_57, q_59, q_60, q_61, q_62, q_63, q_64, q_66, q_91, q_93, q_97, q_99, q_122, q_144, q_255, q_256, q_300, q_380, q_400, q_620, q_999, q_1000, q_4095, q_4096, q_9999, q_65536, q_99999, q_31, nI_add, pk_mul, nE, nL, nT, nM31, nShl, ib_nI, nI_clamp, bI_n0, bI_n1, bI_nar, uI_r, uI_l, uL_r, uL_i, uL_p, uA_r, uA_l, bV_some, bU_some, nar_n0, nar_n1, and_self, and_true, true_and, and_false, false_and, if_true, if_false, eq_self, Bool.false_eq_true, Bool.true_eq_false, not_true_eq_false, not_false_eq_true, ↓reduceIte, nlT, nlF, ntT, ntF, neT, neF, ieT, ieF, decide_true, decide_false, Bool.not_true, Bool.not_false, Bool.and_true, Bool.true_and, Bool.and_false, Bool.false_and, Bool.or_true, Bool.true_or, Bool.or_false, Bool.false_or, hs, c1, k3, k4, m1]
theorem lb_row (h : Inv S A R) (hs : S.1 103 0 0 = nI L) (hi : i + 6 ≤ L) (hL : L ≤ 3072) : LB S i (run 287 0 890 [vR 102 0, vR 0 0, vR 50 0, vI (nI i)] [] S) := by
  obtain ⟨v, S1, S2, c1, m1, hI⟩ := sl_row h (S.1 102 0 (i + 1))
  have k1 := call_k c1
  have k2 := call_k m1
  have k3 : S1.1 102 = S.1 102 := k1.1
  have k4 : S1.1 103 = S.1 103 := k1.2
  refine ⟨S2, ?_, kp_tr k1 k2, hI⟩
  simp (disch := omega) only [s287_890, s287_891, s287_892, s287_893, s287_894, s287_895, s287_896, s287_899, s287_900, s287_901, s287_902, s287_903, s287_904, s287_905, s287_908, q_0, q_1, q_2, q_3, q_4, q_5, q_6, q_7, q_8, q_9, q_10, q_11, q_12, q_13, q_14, q_16, q_20, q_23, q_24, q_32, q_42, q_43, q_45, q_47, q_48, q_50, q_57, q_59, q_60, q_61, q_62, q_63, q_64, q_66, q_91, q_93, q_97, q_99, q_122, q_144, q_255, q_256, q_300, q_380, q_400, q_620, q_999, q_1000, q_4095, q_4096, q_9999, q_65536, q_99999, q_31, nI_add, pk_mul, nE, nL, nT, nM31, nShl, ib_nI, nI_clamp, bI_n0, bI_n1, bI_nar, uI_r, uI_l, uL_r, uL_i, uL_p, uA_r, uA_l, bV_some, bU_some, nar_n0, nar_n1, and_self, and_true, true_and, and_false, false_and, if_true, if_false, eq_self, Bool.false_eq_true, Bool.true_eq_false, not_true_eq_false, not_false_eq_true, ↓reduceIte, nlT, nlF, ntT, ntF, neT, neF, ieT, ieF, decide_true, decide_false, Bool.not_true, Bool.not_false, Bool.and_true, Bool.true_and, Bool.and_false, Bool.false_and, Bool.or_true, Bool.true_or, Bool.or_false, Bool.false_or, hs, c1, k3, k4, m1]
theorem lb_judged (h : Inv S A R) (hs : S.1 103 0 0 = nI L) (hi : i + 6 ≤ L) (hL : L ≤ 3072) : LB S i (run 287 0 913 [vR 102 0, vR 0 0, vR 50 0, vI (nI i)] [] S) := by
  obtain ⟨v, S1, S2, c1, m1, hI⟩ := sl_judged h (S.1 102 0 (i + 1)) (S.1 102 0 (i + 2))
  have k1 := call_k c1
  have k2 := call_k m1
  have k3 : S1.1 102 = S.1 102 := k1.1
  have k4 : S1.1 103 = S.1 103 := k1.2
  refine ⟨S2, ?_, kp_tr k1 k2, hI⟩
  simp (disch := omega) only [s287_913, s287_914, s287_915, s287_916, s287_917, s287_918, s287_919, s287_920, s287_921, s287_922, s287_923, s287_924, s287_927, s287_928, s287_929, s287_930, s287_931, s287_932, s287_933, s287_934, s287_935, s287_936, s287_937, s287_938, s287_941, q_0, q_1, q_2, q_3, q_4, q_5, q_6, q_7, q_8, q_9, q_10, q_11, q_12, q_13, q_14, q_16, q_20, q_23, q_24, q_32, q_42, q_43, q_45, q_47, q_48, q_50, q_57, q_59, q_60, q_61, q_62, q_63, q_64, q_66, q_91, q_93, q_97, q_99, q_122, q_144, q_255, q_256, q_300, q_380, q_400, q_620, q_999, q_1000, q_4095, q_4096, q_9999, q_65536, q_99999, q_31, nI_add, pk_mul, nE, nL, nT, nM31, nShl, ib_nI, nI_clamp, bI_n0, bI_n1, bI_nar, uI_r, uI_l, uL_r, uL_i, uL_p, uA_r, uA_l, bV_some, bU_some, nar_n0, nar_n1, and_self, and_true, true_and, and_false, false_and, if_true, if_false, eq_self, Bool.false_eq_true, Bool.true_eq_false, not_true_eq_false, not_false_eq_true, ↓reduceIte, nlT, nlF, ntT, ntF, neT, neF, ieT, ieF, decide_true, decide_false, Bool.not_true, Bool.not_false, Bool.and_true, Bool.true_and, Bool.and_false, Bool.false_and, Bool.or_true, Bool.true_or, Bool.or_false, Bool.false_or, hs, c1, k3, k4, m1]
theorem lb_then (h : Inv S A R) (hs : S.1 103 0 0 = nI L) (hi : i + 6 ≤ L) (hL : L ≤ 3072) : LB S i (run 287 0 946 [vR 102 0, vR 0 0, vR 50 0, vI (nI i)] [] S) := by
  obtain ⟨v, S1, S2, c1, m1, hI⟩ := sl_then h (S.1 102 0 (i + 1)) (S.1 102 0 (i + 2))
  have k1 := call_k c1
  have k2 := call_k m1
  have k3 : S1.1 102 = S.1 102 := k1.1
  have k4 : S1.1 103 = S.1 103 := k1.2
  refine ⟨S2, ?_, kp_tr k1 k2, hI⟩
  simp (disch := omega) only [s287_946, s287_947, s287_948, s287_949, s287_950, s287_951, s287_952, s287_953, s287_954, s287_955, s287_956, s287_957, s287_960, s287_961, s287_962, s287_963, s287_964, s287_965, s287_966, s287_967, s287_968, s287_969, s287_970, s287_971, s287_974, q_0, q_1, q_2, q_3, q_4, q_5, q_6, q_7, q_8, q_9, q_10, q_11, q_12, q_13, q_14, q_16, q_20, q_23, q_24, q_32, q_42, q_43, q_45, q_47, q_48, q_50, q_57, q_59, q_60, q_61, q_62, q_63, q_64, q_66, q_91, q_93, q_97, q_99, q_122, q_144, q_255, q_256, q_300, q_380, q_400, q_620, q_999, q_1000, q_4095, q_4096, q_9999, q_65536, q_99999, q_31, nI_add, pk_mul, nE, nL, nT, nM31, nShl, ib_nI, nI_clamp, bI_n0, bI_n1, bI_nar, uI_r, uI_l, uL_r, uL_i, uL_p, uA_r, uA_l, bV_some, bU_some, nar_n0, nar_n1, and_self, and_true, true_and, and_false, false_and, if_true, if_false, eq_self, Bool.false_eq_true, Bool.true_eq_false, not_true_eq_false, not_false_eq_true, ↓reduceIte, nlT, nlF, ntT, ntF, neT, neF, ieT, ieF, decide_true, decide_false, Bool.not_true, Bool.not_false, Bool.and_true, Bool.true_and, Bool.and_false, Bool.false_and, Bool.or_true, Bool.true_or, Bool.or_false, Bool.false_or, hs, c1, k3, k4, m1]
theorem lb_chain (h : Inv S A R) (hs : S.1 103 0 0 = nI L) (hi : i + 6 ≤ L) (hL : L ≤ 3072) : LB S i (run 287 0 979 [vR 102 0, vR 0 0, vR 50 0, vI (nI i)] [] S) := by
  obtain ⟨v, S1, S2, c1, m1, hI⟩ := sl_chain h (S.1 102 0 (i + 1)) (S.1 102 0 (i + 2))
  have k1 := call_k c1
  have k2 := call_k m1
  have k3 : S1.1 102 = S.1 102 := k1.1
  have k4 : S1.1 103 = S.1 103 := k1.2
  refine ⟨S2, ?_, kp_tr k1 k2, hI⟩
  simp (disch := omega) only [s287_979, s287_980, s287_981, s287_982, s287_983, s287_984, s287_985, s287_986, s287_987, s287_988, s287_989, s287_990, s287_993, s287_994, s287_995, s287_996, s287_997, s287_998, s287_999, s287_1000, s287_1001, s287_1002, s287_1003, s287_1004, s287_1007, q_0, q_1, q_2, q_3, q_4, q_5, q_6, q_7, q_8, q_9, q_10, q_11, q_12, q_13, q_14, q_16, q_20, q_23, q_24, q_32, q_42, q_43, q_45, q_47, q_48, q_50, q_57, q_59, q_60, q_61, q_62, q_63, q_64, q_66, q_91, q_93, q_97, q_99, q_122, q_144, q_255, q_256, q_300, q_380, q_400, q_620, q_999, q_1000, q_4095, q_4096, q_9999, q_65536, q_99999, q_31, nI_add, pk_mul, nE, nL, nT, nM31, nShl, ib_nI, nI_clamp, bI_n0, bI_n1, bI_nar, uI_r, uI_l, uL_r, uL_i, uL_p, uA_r, uA_l, bV_some, bU_some, nar_n0, nar_n1, and_self, and_true, true_and, and_false, false_and, if_true, if_false, eq_self, Bool.false_eq_true, Bool.true_eq_false, not_true_eq_false, not_false_eq_true, ↓reduceIte, nlT, nlF, ntT, ntF, neT, neF, ieT, ieF, decide_true, decide_false, Bool.not_true, Bool.not_false, Bool.and_true, Bool.true_and, Bool.and_false, Bool.false_and, Bool.or_true, Bool.true_or, Bool.or_false, Bool.false_or, hs, c1, k3, k4, m1]
theorem lb_all (h : Inv S A R) (hs : S.1 103 0 0 = nI L) (hi : i + 6 ≤ L) (hL : L ≤ 3072) : LB S i (run 287 0 1012 [vR 102 0, vR 0 0, vR 50 0, vI (nI i)] [] S) := by
  obtain ⟨v, S1, S2, c1, m1, hI⟩ := sl_all h (S.1 102 0 (i + 1)) (S.1 102 0 (i + 2))
  have k1 := call_k c1
  have k2 := call_k m1
  have k3 : S1.1 102 = S.1 102 := k1.1
  have k4 : S1.1 103 = S.1 103 := k1.2
  refine ⟨S2, ?_, kp_tr k1 k2, hI⟩
  simp (disch := omega) only [s287_1012, s287_1013, s287_1014, s287_1015, s287_1016, s287_1017, s287_1018, s287_1019, s287_1020, s287_1021, s287_1022, s287_1023, s287_1026, s287_1027, s287_1028, s287_1029, s287_1030, s287_1031, s287_1032, s287_1033, s287_1034, s287_1035, s287_1036, s287_1037, s287_1040, q_0, q_1, q_2, q_3, q_4, q_5, q_6, q_7, q_8, q_9, q_10, q_11, q_12, q_13, q_14, q_16, q_20, q_23, q_24, q_32, q_42, q_43, q_45, q_47, q_48, q_50, q_57, q_59, q_60, q_61, q_62, q_63, q_64, q_66, q_91, q_93, q_97, q_99, q_122, q_144, q_255, q_256, q_300, q_380, q_400, q_620, q_999, q_1000, q_4095, q_4096, q_9999, q_65536, q_99999, q_31, nI_add, pk_mul, nE, nL, nT, nM31, nShl, ib_nI, nI_clamp, bI_n0, bI_n1, bI_nar, uI_r, uI_l, uL_r, uL_i, uL_p, uA_r, uA_l, bV_some, bU_some, nar_n0, nar_n1, and_self, and_true, true_and, and_false, false_and, if_true, if_false, eq_self, Bool.false_eq_true, Bool.true_eq_false, not_true_eq_false, not_false_eq_true, ↓reduceIte, nlT, nlF, ntT, ntF, neT, neF, ieT, ieF, decide_true, decide_false, Bool.not_true, Bool.not_false, Bool.and_true, Bool.true_and, Bool.and_false, Bool.false_and, Bool.or_true, Bool.true_or, Bool.or_false, Bool.false_or, hs, c1, k3, k4, m1]
theorem lb_worth (h : Inv S A R) (hs : S.1 103 0 0 = nI L) (hi : i + 6 ≤ L) (hL : L ≤ 3072) : LB S i (run 287 0 1045 [vR 102 0, vR 0 0, vR 50 0, vI (nI i)] [] S) := by
  obtain ⟨v, S1, S2, c1, m1, hI⟩ := sl_worth h (S.1 102 0 (i + 1))
  have k1 := call_k c1
  have k2 := call_k m1
  have k3 : S1.1 102 = S.1 102 := k1.1
  have k4 : S1.1 103 = S.1 103 := k1.2
  refine ⟨S2, ?_, kp_tr k1 k2, hI⟩
  simp (disch := omega) only [s287_1045, s287_1046, s287_1047, s287_1048, s287_1049, s287_1050, s287_1051, s287_1054, s287_1055, s287_1056, s287_1057, s287_1058, s287_1059, s287_1060, s287_1063, q_0, q_1, q_2, q_3, q_4, q_5, q_6, q_7, q_8, q_9, q_10, q_11, q_12, q_13, q_14, q_16, q_20, q_23, q_24, q_32, q_42, q_43, q_45, q_47, q_48, q_50, q_57, q_59, q_60, q_61, q_62, q_63, q_64, q_66, q_91, q_93, q_97, q_99, q_122, q_144, q_255, q_256, q_300, q_380, q_400, q_620, q_999, q_1000, q_4095, q_4096, q_9999, q_65536, q_99999, q_31, nI_add, pk_mul, nE, nL, nT, nM31, nShl, ib_nI, nI_clamp, bI_n0, bI_n1, bI_nar, uI_r, uI_l, uL_r, uL_i, uL_p, uA_r, uA_l, bV_some, bU_some, nar_n0, nar_n1, and_self, and_true, true_and, and_false, false_and, if_true, if_false, eq_self, Bool.false_eq_true, Bool.true_eq_false, not_true_eq_false, not_false_eq_true, ↓reduceIte, nlT, nlF, ntT, ntF, neT, neF, ieT, ieF, decide_true, decide_false, Bool.not_true, Bool.not_false, Bool.and_true, Bool.true_and, Bool.and_false, Bool.false_and, Bool.or_true, Bool.true_or, Bool.or_false, Bool.false_or, hs, c1, k3, k4, m1]
theorem lb_share (h : Inv S A R) (hs : S.1 103 0 0 = nI L) (hi : i + 6 ≤ L) (hL : L ≤ 3072) : LB S i (run 287 0 1068 [vR 102 0, vR 0 0, vR 50 0, vI (nI i)] [] S) := by
  obtain ⟨v, S1, S2, c1, m1, hI⟩ := sl_share h (S.1 102 0 (i + 1)) (S.1 102 0 (i + 2)) (S.1 102 0 (i + 3))
  have k1 := call_k c1
  have k2 := call_k m1
  have k3 : S1.1 102 = S.1 102 := k1.1
  have k4 : S1.1 103 = S.1 103 := k1.2
  refine ⟨S2, ?_, kp_tr k1 k2, hI⟩
  simp (disch := omega) only [s287_1068, s287_1069, s287_1070, s287_1071, s287_1072, s287_1073, s287_1074, s287_1075, s287_1076, s287_1077, s287_1078, s287_1079, s287_1080, s287_1081, s287_1082, s287_1083, s287_1084, s287_1087, s287_1088, s287_1089, s287_1090, s287_1091, s287_1092, s287_1093, s287_1094, s287_1095, s287_1096, s287_1097, s287_1098, s287_1099, s287_1100, s287_1101, s287_1102, s287_1103, s287_1106, q_0, q_1, q_2, q_3, q_4, q_5, q_6, q_7, q_8, q_9, q_10, q_11, q_12, q_13, q_14, q_16, q_20, q_23, q_24, q_32, q_42, q_43, q_45, q_47, q_48, q_50, q_57, q_59, q_60, q_61, q_62, q_63, q_64, q_66, q_91, q_93, q_97, q_99, q_122, q_144, q_255, q_256, q_300, q_380, q_400, q_620, q_999, q_1000, q_4095, q_4096, q_9999, q_65536, q_99999, q_31, nI_add, pk_mul, nE, nL, nT, nM31, nShl, ib_nI, nI_clamp, bI_n0, bI_n1, bI_nar, uI_r, uI_l, uL_r, uL_i, uL_p, uA_r, uA_l, bV_some, bU_some, nar_n0, nar_n1, and_self, and_true, true_and, and_false, false_and, if_true, if_false, eq_self, Bool.false_eq_true, Bool.true_eq_false, not_true_eq_false, not_false_eq_true, ↓reduceIte, nlT, nlF, ntT, ntF, neT, neF, ieT, ieF, decide_true, decide_false, Bool.not_true, Bool.not_false, Bool.and_true, Bool.true_and, Bool.and_false, Bool.false_and, Bool.or_true, Bool.true_or, Bool.or_false, Bool.false_or, hs, c1, k3, k4, m1]
theorem lb_stopped (h : Inv S A R) (hs : S.1 103 0 0 = nI L) (hi : i + 6 ≤ L) (hL : L ≤ 3072) : LB S i (run 287 0 1111 [vR 102 0, vR 0 0, vR 50 0, vI (nI i)] [] S) := by
  obtain ⟨v, S1, S2, c1, m1, hI⟩ := sl_stopped h
  have k1 := call_k c1
  have k2 := call_k m1
  have k3 : S1.1 102 = S.1 102 := k1.1
  have k4 : S1.1 103 = S.1 103 := k1.2
  refine ⟨S2, ?_, kp_tr k1 k2, hI⟩
  simp (disch := omega) only [s287_1111, s287_1112, s287_1115, s287_1116, s287_1119, q_0, q_1, q_2, q_3, q_4, q_5, q_6, q_7, q_8, q_9, q_10, q_11, q_12, q_13, q_14, q_16, q_20, q_23, q_24, q_32, q_42, q_43, q_45, q_47, q_48, q_50, q_57, q_59, q_60, q_61, q_62, q_63, q_64, q_66, q_91, q_93, q_97, q_99, q_122, q_144, q_255, q_256, q_300, q_380, q_400, q_620, q_999, q_1000, q_4095, q_4096, q_9999, q_65536, q_99999, q_31, nI_add, pk_mul, nE, nL, nT, nM31, nShl, ib_nI, nI_clamp, bI_n0, bI_n1, bI_nar, uI_r, uI_l, uL_r, uL_i, uL_p, uA_r, uA_l, bV_some, bU_some, nar_n0, nar_n1, and_self, and_true, true_and, and_false, false_and, if_true, if_false, eq_self, Bool.false_eq_true, Bool.true_eq_false, not_true_eq_false, not_false_eq_true, ↓reduceIte, nlT, nlF, ntT, ntF, neT, neF, ieT, ieF, decide_true, decide_false, Bool.not_true, Bool.not_false, Bool.and_true, Bool.true_and, Bool.and_false, Bool.false_and, Bool.or_true, Bool.true_or, Bool.or_false, Bool.false_or, hs, c1, k3, k4, m1]
theorem lb_least (h : Inv S A R) (hs : S.1 103 0 0 = nI L) (hi : i + 6 ≤ L) (hL : L ≤ 3072) : LB S i (run 287 0 1124 [vR 102 0, vR 0 0, vR 50 0, vI (nI i)] [] S) := by
  obtain ⟨v, S1, S2, c1, m1, hI⟩ := sl_least h
  have k1 := call_k c1
  have k2 := call_k m1
  have k3 : S1.1 102 = S.1 102 := k1.1
  have k4 : S1.1 103 = S.1 103 := k1.2
  refine ⟨S2, ?_, kp_tr k1 k2, hI⟩
  simp (disch := omega) only [s287_1124, s287_1125, s287_1128, s287_1129, s287_1132, q_0, q_1, q_2, q_3, q_4, q_5, q_6, q_7, q_8, q_9, q_10, q_11, q_12, q_13, q_14, q_16, q_20, q_23, q_24, q_32, q_42, q_43, q_45, q_47, q_48, q_50, q_57, q_59, q_60, q_61, q_62, q_63, q_64, q_66, q_91, q_93, q_97, q_99, q_122, q_144, q_255, q_256, q_300, q_380, q_400, q_620, q_999, q_1000, q_4095, q_4096, q_9999, q_65536, q_99999, q_31, nI_add, pk_mul, nE, nL, nT, nM31, nShl, ib_nI, nI_clamp, bI_n0, bI_n1, bI_nar, uI_r, uI_l, uL_r, uL_i, uL_p, uA_r, uA_l, bV_some, bU_some, nar_n0, nar_n1, and_self, and_true, true_and, and_false, false_and, if_true, if_false, eq_self, Bool.false_eq_true, Bool.true_eq_false, not_true_eq_false, not_false_eq_true, ↓reduceIte, nlT, nlF, ntT, ntF, neT, neF, ieT, ieF, decide_true, decide_false, Bool.not_true, Bool.not_false, Bool.and_true, Bool.true_and, Bool.and_false, Bool.false_and, Bool.or_true, Bool.true_or, Bool.or_false, Bool.false_or, hs, c1, k3, k4, m1]
theorem lb_lay (h : Inv S A R) (hs : S.1 103 0 0 = nI L) (hi : i + 6 ≤ L) (hL : L ≤ 3072) : LB S i (run 287 0 1137 [vR 102 0, vR 0 0, vR 50 0, vI (nI i)] [] S) := by
  obtain ⟨v, S1, S2, c1, m1, hI⟩ := sl_lay h (S.1 102 0 (i + 1)) (S.1 102 0 (i + 2)) (S.1 102 0 (i + 3))
  have k1 := call_k c1
  have k2 := call_k m1
  have k3 : S1.1 102 = S.1 102 := k1.1
  have k4 : S1.1 103 = S.1 103 := k1.2
  refine ⟨S2, ?_, kp_tr k1 k2, hI⟩
  simp (disch := omega) only [s287_1137, s287_1138, s287_1139, s287_1140, s287_1141, s287_1142, s287_1143, s287_1144, s287_1145, s287_1146, s287_1147, s287_1148, s287_1149, s287_1150, s287_1151, s287_1152, s287_1153, s287_1156, s287_1157, s287_1158, s287_1159, s287_1160, s287_1161, s287_1162, s287_1163, s287_1164, s287_1165, s287_1166, s287_1167, s287_1168, s287_1169, s287_1170, s287_1171, s287_1172, s287_1175, q_0, q_1, q_2, q_3, q_4, q_5, q_6, q_7, q_8, q_9, q_10, q_11, q_12, q_13, q_14, q_16, q_20, q_23, q_24, q_32, q_42, q_43, q_45, q_47, q_48, q_50, q_57, q_59, q_60, q_61, q_62, q_63, q_64, q_66, q_91, q_93, q_97, q_99, q_122, q_144, q_255, q_256, q_300, q_380, q_400, q_620, q_999, q_1000, q_4095, q_4096, q_9999, q_65536, q_99999, q_31, nI_add, pk_mul, nE, nL, nT, nM31, nShl, ib_nI, nI_clamp, bI_n0, bI_n1, bI_nar, uI_r, uI_l, uL_r, uL_i, uL_p, uA_r, uA_l, bV_some, bU_some, nar_n0, nar_n1, and_self, and_true, true_and, and_false, false_and, if_true, if_false, eq_self, Bool.false_eq_true, Bool.true_eq_false, not_true_eq_false, not_false_eq_true, ↓reduceIte, nlT, nlF, ntT, ntF, neT, neF, ieT, ieF, decide_true, decide_false, Bool.not_true, Bool.not_false, Bool.and_true, Bool.true_and, Bool.and_false, Bool.false_and, Bool.or_true, Bool.true_or, Bool.or_false, Bool.false_or, hs, c1, k3, k4, m1]
theorem lb_swap (h : Inv S A R) (hs : S.1 103 0 0 = nI L) (hi : i + 6 ≤ L) (hL : L ≤ 3072) : LB S i (run 287 0 1180 [vR 102 0, vR 0 0, vR 50 0, vI (nI i)] [] S) := by
  obtain ⟨v, S1, S2, c1, m1, hI⟩ := sl_swap h (S.1 102 0 (i + 1)) (S.1 102 0 (i + 2)) (S.1 102 0 (i + 3)) (S.1 102 0 (i + 4))
  have k1 := call_k c1
  have k2 := call_k m1
  have k3 : S1.1 102 = S.1 102 := k1.1
  have k4 : S1.1 103 = S.1 103 := k1.2
  refine ⟨S2, ?_, kp_tr k1 k2, hI⟩
  simp (disch := omega) only [s287_1180, s287_1181, s287_1182, s287_1183, s287_1184, s287_1185, s287_1186, s287_1187, s287_1188, s287_1189, s287_1190, s287_1191, s287_1192, s287_1193, s287_1194, s287_1195, s287_1196, s287_1197, s287_1198, s287_1199, s287_1200, s287_1201, s287_1204, s287_1205, s287_1206, s287_1207, s287_1208, s287_1209, s287_1210, s287_1211, s287_1212, s287_1213, s287_1214, s287_1215, s287_1216, s287_1217, s287_1218, s287_1219, s287_1220, s287_1221, s287_1222, s287_1223, s287_1224, s287_1225, s287_1228, q_0, q_1, q_2, q_3, q_4, q_5, q_6, q_7, q_8, q_9, q_10, q_11, q_12, q_13, q_14, q_16, q_20, q_23, q_24, q_32, q_42, q_43, q_45, q_47, q_48, q_50, q_57, q_59, q_60, q_61, q_62, q_63, q_64, q_66, q_91, q_93, q_97, q_99, q_122, q_144, q_255, q_256, q_300, q_380, q_400, q_620, q_999, q_1000, q_4095, q_4096, q_9999, q_65536, q_99999, q_31, nI_add, pk_mul, nE, nL, nT, nM31, nShl, ib_nI, nI_clamp, bI_n0, bI_n1, bI_nar, uI_r, uI_l, uL_r, uL_i, uL_p, uA_r, uA_l, bV_some, bU_some, nar_n0, nar_n1, and_self, and_true, true_and, and_false, false_and, if_true, if_false, eq_self, Bool.false_eq_true, Bool.true_eq_false, not_true_eq_false, not_false_eq_true, ↓reduceIte, nlT, nlF, ntT, ntF, neT, neF, ieT, ieF, decide_true, decide_false, Bool.not_true, Bool.not_false, Bool.and_true, Bool.true_and, Bool.and_false, Bool.false_and, Bool.or_true, Bool.true_or, Bool.or_false, Bool.false_or, hs, c1, k3, k4, m1]
theorem lb_trades (h : Inv S A R) (hs : S.1 103 0 0 = nI L) (hi : i + 6 ≤ L) (hL : L ≤ 3072) : LB S i (run 287 0 1233 [vR 102 0, vR 0 0, vR 50 0, vI (nI i)] [] S) := by
  obtain ⟨v, S1, S2, c1, m1, hI⟩ := sl_trades h
  have k1 := call_k c1
  have k2 := call_k m1
  have k3 : S1.1 102 = S.1 102 := k1.1
  have k4 : S1.1 103 = S.1 103 := k1.2
  refine ⟨S2, ?_, kp_tr k1 k2, hI⟩
  simp (disch := omega) only [s287_1233, s287_1234, s287_1237, s287_1238, s287_1241, q_0, q_1, q_2, q_3, q_4, q_5, q_6, q_7, q_8, q_9, q_10, q_11, q_12, q_13, q_14, q_16, q_20, q_23, q_24, q_32, q_42, q_43, q_45, q_47, q_48, q_50, q_57, q_59, q_60, q_61, q_62, q_63, q_64, q_66, q_91, q_93, q_97, q_99, q_122, q_144, q_255, q_256, q_300, q_380, q_400, q_620, q_999, q_1000, q_4095, q_4096, q_9999, q_65536, q_99999, q_31, nI_add, pk_mul, nE, nL, nT, nM31, nShl, ib_nI, nI_clamp, bI_n0, bI_n1, bI_nar, uI_r, uI_l, uL_r, uL_i, uL_p, uA_r, uA_l, bV_some, bU_some, nar_n0, nar_n1, and_self, and_true, true_and, and_false, false_and, if_true, if_false, eq_self, Bool.false_eq_true, Bool.true_eq_false, not_true_eq_false, not_false_eq_true, ↓reduceIte, nlT, nlF, ntT, ntF, neT, neF, ieT, ieF, decide_true, decide_false, Bool.not_true, Bool.not_false, Bool.and_true, Bool.true_and, Bool.and_false, Bool.false_and, Bool.or_true, Bool.true_or, Bool.or_false, Bool.false_or, hs, c1, k3, k4, m1]
theorem lb_dies (h : Inv S A R) (hs : S.1 103 0 0 = nI L) (hi : i + 6 ≤ L) (hL : L ≤ 3072) : LB S i (run 287 0 1246 [vR 102 0, vR 0 0, vR 50 0, vI (nI i)] [] S) := by
  obtain ⟨v, S1, S2, c1, m1, hI⟩ := sl_dies h (S.1 102 0 (i + 1))
  have k1 := call_k c1
  have k2 := call_k m1
  have k3 : S1.1 102 = S.1 102 := k1.1
  have k4 : S1.1 103 = S.1 103 := k1.2
  refine ⟨S2, ?_, kp_tr k1 k2, hI⟩
  simp (disch := omega) only [s287_1246, s287_1247, s287_1248, s287_1249, s287_1250, s287_1251, s287_1252, s287_1255, s287_1256, s287_1257, s287_1258, s287_1259, s287_1260, s287_1261, s287_1264, q_0, q_1, q_2, q_3, q_4, q_5, q_6, q_7, q_8, q_9, q_10, q_11, q_12, q_13, q_14, q_16, q_20, q_23, q_24, q_32, q_42, q_43, q_45, q_47, q_48, q_50, q_57, q_59, q_60, q_61, q_62, q_63, q_64, q_66, q_91, q_93, q_97, q_99, q_122, q_144, q_255, q_256, q_300, q_380, q_400, q_620, q_999, q_1000, q_4095, q_4096, q_9999, q_65536, q_99999, q_31, nI_add, pk_mul, nE, nL, nT, nM31, nShl, ib_nI, nI_clamp, bI_n0, bI_n1, bI_nar, uI_r, uI_l, uL_r, uL_i, uL_p, uA_r, uA_l, bV_some, bU_some, nar_n0, nar_n1, and_self, and_true, true_and, and_false, false_and, if_true, if_false, eq_self, Bool.false_eq_true, Bool.true_eq_false, not_true_eq_false, not_false_eq_true, ↓reduceIte, nlT, nlF, ntT, ntF, neT, neF, ieT, ieF, decide_true, decide_false, Bool.not_true, Bool.not_false, Bool.and_true, Bool.true_and, Bool.and_false, Bool.false_and, Bool.or_true, Bool.true_or, Bool.or_false, Bool.false_or, hs, c1, k3, k4, m1]
theorem lb_seed (h : Inv S A R) (hs : S.1 103 0 0 = nI L) (hi : i + 6 ≤ L) (hL : L ≤ 3072) : LB S i (run 287 0 1269 [vR 102 0, vR 0 0, vR 50 0, vI (nI i)] [] S) := by
  obtain ⟨v, S1, S2, c1, m1, hI⟩ := sl_seed h (S.1 102 0 (i + 1))
  have k1 := call_k c1
  have k2 := call_k m1
  have k3 : S1.1 102 = S.1 102 := k1.1
  have k4 : S1.1 103 = S.1 103 := k1.2
  refine ⟨S2, ?_, kp_tr k1 k2, hI⟩
  simp (disch := omega) only [s287_1269, s287_1270, s287_1271, s287_1272, s287_1273, s287_1274, s287_1275, s287_1278, s287_1279, s287_1280, s287_1281, s287_1282, s287_1283, s287_1284, s287_1287, q_0, q_1, q_2, q_3, q_4, q_5, q_6, q_7, q_8, q_9, q_10, q_11, q_12, q_13, q_14, q_16, q_20, q_23, q_24, q_32, q_42, q_43, q_45, q_47, q_48, q_50, q_57, q_59, q_60, q_61, q_62, q_63, q_64, q_66, q_91, q_93, q_97, q_99, q_122, q_144, q_255, q_256, q_300, q_380, q_400, q_620, q_999, q_1000, q_4095, q_4096, q_9999, q_65536, q_99999, q_31, nI_add, pk_mul, nE, nL, nT, nM31, nShl, ib_nI, nI_clamp, bI_n0, bI_n1, bI_nar, uI_r, uI_l, uL_r, uL_i, uL_p, uA_r, uA_l, bV_some, bU_some, nar_n0, nar_n1, and_self, and_true, true_and, and_false, false_and, if_true, if_false, eq_self, Bool.false_eq_true, Bool.true_eq_false, not_true_eq_false, not_false_eq_true, ↓reduceIte, nlT, nlF, ntT, ntF, neT, neF, ieT, ieF, decide_true, decide_false, Bool.not_true, Bool.not_false, Bool.and_true, Bool.true_and, Bool.and_false, Bool.false_and, Bool.or_true, Bool.true_or, Bool.or_false, Bool.false_or, hs, c1, k3, k4, m1]
theorem lb_years (h : Inv S A R) (hs : S.1 103 0 0 = nI L) (hi : i + 6 ≤ L) (hL : L ≤ 3072) : LB S i (run 287 0 1292 [vR 102 0, vR 0 0, vR 50 0, vI (nI i)] [] S) := by
  obtain ⟨v, S1, S2, c1, m1, hI⟩ := sl_years h (S.1 102 0 (i + 1)) (S.1 102 0 (i + 2))
  have k1 := call_k c1
  have k2 := call_k m1
  have k3 : S1.1 102 = S.1 102 := k1.1
  have k4 : S1.1 103 = S.1 103 := k1.2
  refine ⟨S2, ?_, kp_tr k1 k2, hI⟩
  simp (disch := omega) only [s287_1292, s287_1293, s287_1294, s287_1295, s287_1296, s287_1297, s287_1298, s287_1299, s287_1300, s287_1301, s287_1302, s287_1303, s287_1306, s287_1307, s287_1308, s287_1309, s287_1310, s287_1311, s287_1312, s287_1313, s287_1314, s287_1315, s287_1316, s287_1317, s287_1320, q_0, q_1, q_2, q_3, q_4, q_5, q_6, q_7, q_8, q_9, q_10, q_11, q_12, q_13, q_14, q_16, q_20, q_23, q_24, q_32, q_42, q_43, q_45, q_47, q_48, q_50, q_57, q_59, q_60, q_61, q_62, q_63, q_64, q_66, q_91, q_93, q_97, q_99, q_122, q_144, q_255, q_256, q_300, q_380, q_400, q_620, q_999, q_1000, q_4095, q_4096, q_9999, q_65536, q_99999, q_31, nI_add, pk_mul, nE, nL, nT, nM31, nShl, ib_nI, nI_clamp, bI_n0, bI_n1, bI_nar, uI_r, uI_l, uL_r, uL_i, uL_p, uA_r, uA_l, bV_some, bU_some, nar_n0, nar_n1, and_self, and_true, true_and, and_false, false_and, if_true, if_false, eq_self, Bool.false_eq_true, Bool.true_eq_false, not_true_eq_false, not_false_eq_true, ↓reduceIte, nlT, nlF, ntT, ntF, neT, neF, ieT, ieF, decide_true, decide_false, Bool.not_true, Bool.not_false, Bool.and_true, Bool.true_and, Bool.and_false, Bool.false_and, Bool.or_true, Bool.true_or, Bool.or_false, Bool.false_or, hs, c1, k3, k4, m1]
theorem lb_runs (h : Inv S A R) (hs : S.1 103 0 0 = nI L) (hi : i + 6 ≤ L) (hL : L ≤ 3072) : LB S i (run 287 0 1325 [vR 102 0, vR 0 0, vR 50 0, vI (nI i)] [] S) := by
  obtain ⟨v, S1, S2, c1, m1, hI⟩ := sl_runs h (S.1 102 0 (i + 1)) (S.1 102 0 (i + 2)) (S.1 102 0 (i + 3)) (S.1 102 0 (i + 4))
  have k1 := call_k c1
  have k2 := call_k m1
  have k3 : S1.1 102 = S.1 102 := k1.1
  have k4 : S1.1 103 = S.1 103 := k1.2
  refine ⟨S2, ?_, kp_tr k1 k2, hI⟩
  simp (disch := omega) only [s287_1325, s287_1326, s287_1327, s287_1328, s287_1329, s287_1330, s287_1331, s287_1332, s287_1333, s287_1334, s287_1335, s287_1336, s287_1337, s287_1338, s287_1339, s287_1340, s287_1341, s287_1342, s287_1343, s287_1344, s287_1345, s287_1346, s287_1349, s287_1350, s287_1351, s287_1352, s287_1353, s287_1354, s287_1355, s287_1356, s287_1357, s287_1358, s287_1359, s287_1360, s287_1361, s287_1362, s287_1363, s287_1364, s287_1365, s287_1366, s287_1367, s287_1368, s287_1369, s287_1370, s287_1373, q_0, q_1, q_2, q_3, q_4, q_5, q_6, q_7, q_8, q_9, q_10, q_11, q_12, q_13, q_14, q_16, q_20, q_23, q_24, q_32, q_42, q_43, q_45, q_47, q_48, q_50, q_57, q_59, q_60, q_61, q_62, q_63, q_64, q_66, q_91, q_93, q_97, q_99, q_122, q_144, q_255, q_256, q_300, q_380, q_400, q_620, q_999, q_1000, q_4095, q_4096, q_9999, q_65536, q_99999, q_31, nI_add, pk_mul, nE, nL, nT, nM31, nShl, ib_nI, nI_clamp, bI_n0, bI_n1, bI_nar, uI_r, uI_l, uL_r, uL_i, uL_p, uA_r, uA_l, bV_some, bU_some, nar_n0, nar_n1, and_self, and_true, true_and, and_false, false_and, if_true, if_false, eq_self, Bool.false_eq_true, Bool.true_eq_false, not_true_eq_false, not_false_eq_true, ↓reduceIte, nlT, nlF, ntT, ntF, neT, neF, ieT, ieF, decide_true, decide_false, Bool.not_true, Bool.not_false, Bool.and_true, Bool.true_and, Bool.and_false, Bool.false_and, Bool.or_true, Bool.true_or, Bool.or_false, Bool.false_or, hs, c1, k3, k4, m1]
theorem lb_towards (h : Inv S A R) (hs : S.1 103 0 0 = nI L) (hi : i + 6 ≤ L) (hL : L ≤ 3072) : LB S i (run 287 0 1378 [vR 102 0, vR 0 0, vR 50 0, vI (nI i)] [] S) := by
  obtain ⟨v, S1, S2, c1, m1, hI⟩ := sl_towards h (S.1 102 0 (i + 1))
  have k1 := call_k c1
  have k2 := call_k m1
  have k3 : S1.1 102 = S.1 102 := k1.1
  have k4 : S1.1 103 = S.1 103 := k1.2
  refine ⟨S2, ?_, kp_tr k1 k2, hI⟩
  simp (disch := omega) only [s287_1378, s287_1379, s287_1380, s287_1381, s287_1382, s287_1383, s287_1384, s287_1387, s287_1388, s287_1389, s287_1390, s287_1391, s287_1392, s287_1393, s287_1396, q_0, q_1, q_2, q_3, q_4, q_5, q_6, q_7, q_8, q_9, q_10, q_11, q_12, q_13, q_14, q_16, q_20, q_23, q_24, q_32, q_42, q_43, q_45, q_47, q_48, q_50, q_57, q_59, q_60, q_61, q_62, q_63, q_64, q_66, q_91, q_93, q_97, q_99, q_122, q_144, q_255, q_256, q_300, q_380, q_400, q_620, q_999, q_1000, q_4095, q_4096, q_9999, q_65536, q_99999, q_31, nI_add, pk_mul, nE, nL, nT, nM31, nShl, ib_nI, nI_clamp, bI_n0, bI_n1, bI_nar, uI_r, uI_l, uL_r, uL_i, uL_p, uA_r, uA_l, bV_some, bU_some, nar_n0, nar_n1, and_self, and_true, true_and, and_false, false_and, if_true, if_false, eq_self, Bool.false_eq_true, Bool.true_eq_false, not_true_eq_false, not_false_eq_true, ↓reduceIte, nlT, nlF, ntT, ntF, neT, neF, ieT, ieF, decide_true, decide_false, Bool.not_true, Bool.not_false, Bool.and_true, Bool.true_and, Bool.and_false, Bool.false_and, Bool.or_true, Bool.true_or, Bool.or_false, Bool.false_or, hs, c1, k3, k4, m1]
theorem lb_count (h : Inv S A R) (hs : S.1 103 0 0 = nI L) (hi : i + 6 ≤ L) (hL : L ≤ 3072) : LB S i (run 287 0 1401 [vR 102 0, vR 0 0, vR 50 0, vI (nI i)] [] S) := by
  obtain ⟨v, S1, S2, c1, m1, hI⟩ := sl_count h (S.1 102 0 (i + 1))
  have k1 := call_k c1
  have k2 := call_k m1
  have k3 : S1.1 102 = S.1 102 := k1.1
  have k4 : S1.1 103 = S.1 103 := k1.2
  refine ⟨S2, ?_, kp_tr k1 k2, hI⟩
  simp (disch := omega) only [s287_1401, s287_1402, s287_1403, s287_1404, s287_1405, s287_1406, s287_1407, s287_1410, s287_1411, s287_1412, s287_1413, s287_1414, s287_1415, s287_1416, s287_1419, q_0, q_1, q_2, q_3, q_4, q_5, q_6, q_7, q_8, q_9, q_10, q_11, q_12, q_13, q_14, q_16, q_20, q_23, q_24, q_32, q_42, q_43, q_45, q_47, q_48, q_50, q_57, q_59, q_60, q_61, q_62, q_63, q_64, q_66, q_91, q_93, q_97, q_99, q_122, q_144, q_255, q_256, q_300, q_380, q_400, q_620, q_999, q_1000, q_4095, q_4096, q_9999, q_65536, q_99999, q_31, nI_add, pk_mul, nE, nL, nT, nM31, nShl, ib_nI, nI_clamp, bI_n0, bI_n1, bI_nar, uI_r, uI_l, uL_r, uL_i, uL_p, uA_r, uA_l, bV_some, bU_some, nar_n0, nar_n1, and_self, and_true, true_and, and_false, false_and, if_true, if_false, eq_self, Bool.false_eq_true, Bool.true_eq_false, not_true_eq_false, not_false_eq_true, ↓reduceIte, nlT, nlF, ntT, ntF, neT, neF, ieT, ieF, decide_true, decide_false, Bool.not_true, Bool.not_false, Bool.and_true, Bool.true_and, Bool.and_false, Bool.false_and, Bool.or_true, Bool.true_or, Bool.or_false, Bool.false_or, hs, c1, k3, k4, m1]
theorem lb_image (h : Inv S A R) (hs : S.1 103 0 0 = nI L) (hi : i + 6 ≤ L) (hL : L ≤ 3072) : LB S i (run 287 0 1424 [vR 102 0, vR 0 0, vR 50 0, vI (nI i)] [] S) := by
  obtain ⟨v, S1, S2, c1, m1, hI⟩ := sl_image h (S.1 102 0 (i + 1))
  have k1 := call_k c1
  have k2 := call_k m1
  have k3 : S1.1 102 = S.1 102 := k1.1
  have k4 : S1.1 103 = S.1 103 := k1.2
  refine ⟨S2, ?_, kp_tr k1 k2, hI⟩
  simp (disch := omega) only [s287_1424, s287_1425, s287_1426, s287_1427, s287_1428, s287_1429, s287_1430, s287_1433, s287_1434, s287_1435, s287_1436, s287_1437, s287_1438, s287_1439, s287_1442, q_0, q_1, q_2, q_3, q_4, q_5, q_6, q_7, q_8, q_9, q_10, q_11, q_12, q_13, q_14, q_16, q_20, q_23, q_24, q_32, q_42, q_43, q_45, q_47, q_48, q_50, q_57, q_59, q_60, q_61, q_62, q_63, q_64, q_66, q_91, q_93, q_97, q_99, q_122, q_144, q_255, q_256, q_300, q_380, q_400, q_620, q_999, q_1000, q_4095, q_4096, q_9999, q_65536, q_99999, q_31, nI_add, pk_mul, nE, nL, nT, nM31, nShl, ib_nI, nI_clamp, bI_n0, bI_n1, bI_nar, uI_r, uI_l, uL_r, uL_i, uL_p, uA_r, uA_l, bV_some, bU_some, nar_n0, nar_n1, and_self, and_true, true_and, and_false, false_and, if_true, if_false, eq_self, Bool.false_eq_true, Bool.true_eq_false, not_true_eq_false, not_false_eq_true, ↓reduceIte, nlT, nlF, ntT, ntF, neT, neF, ieT, ieF, decide_true, decide_false, Bool.not_true, Bool.not_false, Bool.and_true, Bool.true_and, Bool.and_false, Bool.false_and, Bool.or_true, Bool.true_or, Bool.or_false, Bool.false_or, hs, c1, k3, k4, m1]
theorem lb_back (h : Inv S A R) (hs : S.1 103 0 0 = nI L) (hi : i + 6 ≤ L) (hL : L ≤ 3072) : LB S i (run 287 0 1447 [vR 102 0, vR 0 0, vR 50 0, vI (nI i)] [] S) := by
  obtain ⟨v, S1, S2, c1, m1, hI⟩ := sl_back h (S.1 102 0 (i + 1))
  have k1 := call_k c1
  have k2 := call_k m1
  have k3 : S1.1 102 = S.1 102 := k1.1
  have k4 : S1.1 103 = S.1 103 := k1.2
  refine ⟨S2, ?_, kp_tr k1 k2, hI⟩
  simp (disch := omega) only [s287_1447, s287_1448, s287_1449, s287_1450, s287_1451, s287_1452, s287_1453, s287_1456, s287_1457, s287_1458, s287_1459, s287_1460, s287_1461, s287_1462, s287_1465, q_0, q_1, q_2, q_3, q_4, q_5, q_6, q_7, q_8, q_9, q_10, q_11, q_12, q_13, q_14, q_16, q_20, q_23, q_24, q_32, q_42, q_43, q_45, q_47, q_48, q_50, q_57, q_59, q_60, q_61, q_62, q_63, q_64, q_66, q_91, q_93, q_97, q_99, q_122, q_144, q_255, q_256, q_300, q_380, q_400, q_620, q_999, q_1000, q_4095, q_4096, q_9999, q_65536, q_99999, q_31, nI_add, pk_mul, nE, nL, nT, nM31, nShl, ib_nI, nI_clamp, bI_n0, bI_n1, bI_nar, uI_r, uI_l, uL_r, uL_i, uL_p, uA_r, uA_l, bV_some, bU_some, nar_n0, nar_n1, and_self, and_true, true_and, and_false, false_and, if_true, if_false, eq_self, Bool.false_eq_true, Bool.true_eq_false, not_true_eq_false, not_false_eq_true, ↓reduceIte, nlT, nlF, ntT, ntF, neT, neF, ieT, ieF, decide_true, decide_false, Bool.not_true, Bool.not_false, Bool.and_true, Bool.true_and, Bool.and_false, Bool.false_and, Bool.or_true, Bool.true_or, Bool.or_false, Bool.false_or, hs, c1, k3, k4, m1]
end LBs
