/-! the law's loop -/
theorem lc_case {S : Sto} {A : Tn} {R : Rs} {L i : Nat} (h : Inv S A R) (hs : S.1 103 0 0 = nI L) (hi : i + 6 ≤ L) (hL : L ≤ 3072) (x : Int32) : LB S i (run 287 0 33 [vR 102 0, vR 0 0, vR 50 0, vI (nI i)] [vI x] S) := by
  rw [s287_33]
  by_cases w0 : x.toInt = 0
  · rw [if_pos w0]
    exact lb_person h hs hi hL
  rw [if_neg w0]
  by_cases w1 : x.toInt = 1
  · rw [if_pos w1]
    exact lb_like h hs hi hL
  rw [if_neg w1]
  by_cases w2 : x.toInt = 2
  · rw [if_pos w2]
    exact lb_quar h hs hi hL
  rw [if_neg w2]
  by_cases w3 : x.toInt = 3
  · rw [if_pos w3]
    exact lb_heir h hs hi hL
  rw [if_neg w3]
  by_cases w4 : x.toInt = 4
  · rw [if_pos w4]
    exact lb_thing h hs hi hL
  rw [if_neg w4]
  by_cases w5 : x.toInt = 5
  · rw [if_pos w5]
    exact lb_work h hs hi hL
  rw [if_neg w5]
  by_cases w6 : x.toInt = 6
  · rw [if_pos w6]
    exact lb_feed h hs hi hL
  rw [if_neg w6]
  by_cases w7 : x.toInt = 7
  · rw [if_pos w7]
    exact lb_end h hs hi hL
  rw [if_neg w7]
  by_cases w8 : x.toInt = 8
  · rw [if_pos w8]
    exact lb_law h hs hi hL
  rw [if_neg w8]
  by_cases w9 : x.toInt = 9
  · rw [if_pos w9]
    exact lb_of h hs hi hL
  rw [if_neg w9]
  by_cases w10 : x.toInt = 10
  · rw [if_pos w10]
    exact lb_two h hs hi hL
  rw [if_neg w10]
  by_cases w11 : x.toInt = 11
  · rw [if_pos w11]
    exact lb_things h hs hi hL
  rw [if_neg w11]
  by_cases w12 : x.toInt = 12
  · rw [if_pos w12]
    exact lb_works h hs hi hL
  rw [if_neg w12]
  by_cases w13 : x.toInt = 13
  · rw [if_pos w13]
    exact lb_nod h hs hi hL
  rw [if_neg w13]
  by_cases w14 : x.toInt = 14
  · rw [if_pos w14]
    exact lb_had h hs hi hL
  rw [if_neg w14]
  by_cases w15 : x.toInt = 15
  · rw [if_pos w15]
    exact lb_can h hs hi hL
  rw [if_neg w15]
  by_cases w16 : x.toInt = 16
  · rw [if_pos w16]
    exact lb_bars h hs hi hL
  rw [if_neg w16]
  by_cases w17 : x.toInt = 17
  · rw [if_pos w17]
    exact lb_does h hs hi hL
  rw [if_neg w17]
  by_cases w18 : x.toInt = 18
  · rw [if_pos w18]
    exact lb_row h hs hi hL
  rw [if_neg w18]
  by_cases w19 : x.toInt = 19
  · rw [if_pos w19]
    exact lb_judged h hs hi hL
  rw [if_neg w19]
  by_cases w20 : x.toInt = 20
  · rw [if_pos w20]
    exact lb_then h hs hi hL
  rw [if_neg w20]
  by_cases w21 : x.toInt = 21
  · rw [if_pos w21]
    exact lb_chain h hs hi hL
  rw [if_neg w21]
  by_cases w22 : x.toInt = 22
  · rw [if_pos w22]
    exact lb_all h hs hi hL
  rw [if_neg w22]
  by_cases w23 : x.toInt = 23
  · rw [if_pos w23]
    exact lb_worth h hs hi hL
  rw [if_neg w23]
  by_cases w24 : x.toInt = 24
  · rw [if_pos w24]
    exact lb_share h hs hi hL
  rw [if_neg w24]
  by_cases w25 : x.toInt = 25
  · rw [if_pos w25]
    exact lb_stopped h hs hi hL
  rw [if_neg w25]
  by_cases w26 : x.toInt = 26
  · rw [if_pos w26]
    exact lb_least h hs hi hL
  rw [if_neg w26]
  by_cases w27 : x.toInt = 27
  · rw [if_pos w27]
    exact lb_lay h hs hi hL
  rw [if_neg w27]
  by_cases w28 : x.toInt = 28
  · rw [if_pos w28]
    exact lb_swap h hs hi hL
  rw [if_neg w28]
  by_cases w29 : x.toInt = 29
  · rw [if_pos w29]
    exact lb_trades h hs hi hL
  rw [if_neg w29]
  by_cases w30 : x.toInt = 30
  · rw [if_pos w30]
    exact lb_dies h hs hi hL
  rw [if_neg w30]
  by_cases w31 : x.toInt = 31
  · rw [if_pos w31]
    exact lb_seed h hs hi hL
  rw [if_neg w31]
  by_cases w32 : x.toInt = 32
  · rw [if_pos w32]
    exact lb_years h hs hi hL
  rw [if_neg w32]
  by_cases w33 : x.toInt = 33
  · rw [if_pos w33]
    exact lb_runs h hs hi hL
  rw [if_neg w33]
  by_cases w34 : x.toInt = 34
  · rw [if_pos w34]
    exact lb_towards h hs hi hL
  rw [if_neg w34]
  by_cases w35 : x.toInt = 35
  · rw [if_pos w35]
    exact lb_count h hs hi hL
  rw [if_neg w35]
  by_cases w36 : x.toInt = 36
  · rw [if_pos w36]
    exact lb_image h hs hi hL
  rw [if_neg w36]
  by_cases w37 : x.toInt = 37
  · rw [if_pos w37]
    exact lb_back h hs hi hL
  rw [if_neg w37]
  exact ⟨S, rfl, kp_rf, A, R, h⟩
theorem nI_lt6 {L : Nat} (h : L < 6) : nI L - 6 < nI 0 := by
  have : ∀ L, L < 6 → nI L - 6 < nI 0 := by decide +kernel
  exact this L h
theorem lc_loop {L : Nat} (hL : L ≤ 3072) : ∀ (m i : Nat) (S : Sto) (A : Tn) (R : Rs), Inv S A R → S.1 103 0 0 = nI L → L < i + m → i ≤ L → (L < 6 → i = 0) → ∃ S', run 287 0 18 [vR 102 0, vR 0 0, vR 50 0, vI (nI i)] [] S = some (some (vI 1), S') := by
  intro m
  induction m with
  | zero => intro i S A R _ _ h1 h2; omega
  | succ m ih =>
    intro i S A R h hs hm hi h6
    have e1 : run 287 0 18 [vR 102 0, vR 0 0, vR 50 0, vI (nI i)] [] S = if nI L - 6 < nI i then run 287 0 1476 [vR 102 0, vR 0 0, vR 50 0, vI (nI i)] [] S else run 287 0 27 [vR 102 0, vR 0 0, vR 50 0, vI (nI i)] [] S := by
      rw [s287_18, s287_19, s287_20, s287_21, s287_23, s287_24, hs, nI_clamp (by omega)]
      rfl
    rw [e1]
    by_cases hx : L < i + 6
    · have e2 : nI L - 6 < nI i := by
        by_cases q : L < 6
        · rw [h6 q]; exact nI_lt6 q
        · have e3 : nI L - 6 = nI (L - 6) := nSub (a := L) (b := 6) (by omega)
          rw [e3, nT (by omega) (by omega)]
          omega
      rw [if_pos e2, s287_1476, s287_1477, if_pos (show vp_nar .boolean 1 = 1 from rfl)]
      exact ⟨S, rfl⟩
    · have e2 : ¬ nI L - 6 < nI i := by
        have e3 : nI L - 6 = nI (L - 6) := nSub (a := L) (b := 6) (by omega)
        rw [e3, nT (by omega) (by omega)]
        omega
      rw [if_neg e2, s287_27, s287_28, s287_29, hs, nI_clamp (by omega), nI_clamp (by omega), if_pos (ib_nI (by omega) (by omega)), s287_30, s287_32]
      obtain ⟨S2, r1, r2, A', R', r3⟩ := lc_case h hs (i := i) (by omega) hL (S.1 102 0 i &&& 63)
      rw [r1, s287_1470, s287_1473]
      have e4 : nI i + 6 = nI (i + 6) := nI_add i 6
      rw [e4]
      exact ih (i + 6) S2 A' R' r3 (by rw [r2.2]; exact hs) (by omega) (by omega) (fun q => absurd q (by omega))
