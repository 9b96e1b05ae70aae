/-! the texts at the start -/
def FLc : List Cond := flatC (Jvm.Cond.and given_1 narrow_1)
theorem FL_of {args : Array Value} {s : State} (hgv : (Jvm.Cond.and given_1 narrow_1).before args s = true) {p : Nat} {w : Cond} (h : FLc[p]? = some w) : w.before args s = true := flat_of_before _ hgv w (List.mem_of_getElem? h)
def tmS (j : Nat) : Term := match j with
  | 0 => .string "OwnedByTwos$Tape" 51
  | 1 => .string "OwnedByTwos$Tape" 97
  | 2 => .string "OwnedByTwos$Tape" 64
  | 3 => .string "OwnedByTwos$Tape" 82
  | 4 => .string "OwnedByTwos$Tape" 76
  | 5 => .string "OwnedByTwosModel" 257
  | 6 => .string "OwnedByTwosModel" 259
  | 7 => .string "OwnedByTwosModel" 261
  | 8 => .string "OwnedByTwosModel" 263
  | 9 => .string "OwnedByTwosModel" 265
  | 10 => .string "OwnedByTwosModel" 239
  | 11 => .string "OwnedByTwosModel" 241
  | 12 => .string "OwnedByTwosModel" 243
  | 13 => .string "OwnedByTwosModel" 245
  | 14 => .string "OwnedByTwosModel" 247
  | 15 => .string "OwnedByTwosModel" 248
  | 16 => .string "OwnedByTwosModel" 249
  | 17 => .string "OwnedByTwosModel" 251
  | 18 => .string "OwnedByTwosModel" 253
  | 19 => .string "OwnedByTwosModel" 254
  | 20 => .string "OwnedByTwosModel" 255
  | 21 => .string "OwnedByTwosModel" 360
  | _ => .string "OwnedByTwosModel" 362
def pS (j : Nat) : Nat := [29, 61, 122, 130, 140, 154, 166, 181, 196, 215, 233, 251, 270, 291, 311, 333, 356, 379, 405, 433, 460, 544, 574].getD j 0
def pNe (i j : Nat) : Nat := ([[], [121], [128, 129], [137, 138, 139], [150, 151, 152, 153], [161, 162, 163, 164, 165], [175, 176, 177, 178, 179, 180], [189, 190, 191, 192, 193, 194, 195], [207, 208, 209, 210, 211, 212, 213, 214], [224, 225, 226, 227, 228, 229, 230, 231, 232], [241, 242, 243, 244, 245, 246, 247, 248, 249, 250], [259, 260, 261, 262, 263, 264, 265, 266, 267, 268, 269], [279, 280, 281, 282, 283, 284, 285, 286, 287, 288, 289, 290], [298, 299, 300, 301, 302, 303, 304, 305, 306, 307, 308, 309, 310], [319, 320, 321, 322, 323, 324, 325, 326, 327, 328, 329, 330, 331, 332], [341, 342, 343, 344, 345, 346, 347, 348, 349, 350, 351, 352, 353, 354, 355], [363, 364, 365, 366, 367, 368, 369, 370, 371, 372, 373, 374, 375, 376, 377, 378], [388, 389, 390, 391, 392, 393, 394, 395, 396, 397, 398, 399, 400, 401, 402, 403, 404], [415, 416, 417, 418, 419, 420, 421, 422, 423, 424, 425, 426, 427, 428, 429, 430, 431, 432], [441, 442, 443, 444, 445, 446, 447, 448, 449, 450, 451, 452, 453, 454, 455, 456, 457, 458, 459], [468, 469, 470, 471, 472, 473, 474, 475, 476, 477, 478, 479, 480, 481, 482, 483, 484, 485, 486, 487], [551, 552, 553, 554, 555, 556, 557, 558, 559, 560, 561, 562, 563, 564, 565, 566, 567, 568, 569, 570, 571], [580, 581, 582, 583, 584, 585, 586, 587, 588, 589, 590, 591, 592, 593, 594, 595, 596, 597, 598, 599, 600, 603]].getD i []).getD j 0
def stOk (j : Nat) : Bool := decide (FLc[pS j]? = some (.exactly (tmS j) "java/lang/String")) && decide (FLc[pS j + 1]? = some (.eq (.field (tmS j) "java/lang/String" "coder" "B") (.int 0))) && decide (FLc[pS j + 2]? = some (.arrayOf (.field (tmS j) "java/lang/String" "value" "[B") .byte)) && decide (FLc[pS j + 3]? = some (.eq (.length (.field (tmS j) "java/lang/String" "value" "[B")) (.int (Int32.ofNat (lenS.getD j 0))))) && Nat.blt (lenS.getD j 0) 1000 && (List.range (lenS.getD j 0)).all (fun i => decide (FLc[pS j + 4 + i]? = some (.eq (.elem (.field (tmS j) "java/lang/String" "value" "[B") (.int (Int32.ofNat i))) (.int ((bytS.getD j []).getD i 0)))))
theorem st_0 : (List.range' 0 6).all stOk = true := by decide +kernel
theorem st_6 : (List.range' 6 6).all stOk = true := by decide +kernel
theorem st_12 : (List.range' 12 6).all stOk = true := by decide +kernel
theorem st_18 : (List.range' 18 5).all stOk = true := by decide +kernel
def sPos (c idx : Nat) : Nat := match lk (bif Nat.beq c 5 then [(51, 574), (97, 647), (64, 652), (82, 661), (76, 670)] else [(257, 1499), (259, 1500), (261, 1501), (263, 1502), (265, 1503), (239, 1548), (241, 1549), (243, 1550), (245, 1551), (247, 1552), (248, 1553), (249, 1554), (251, 1555), (253, 1556), (254, 1557), (255, 1558), (367, 1559), (346, 1572), (360, 1589), (362, 1590)]) idx with
  | some p => p
  | none => 0
theorem st_all {j : Nat} (h : j < 23) : stOk j = true := by
  by_cases h1 : j < 6
  · exact List.all_eq_true.mp st_0 j (List.mem_range'_1.mpr ⟨by omega, by omega⟩)
  by_cases h2 : j < 12
  · exact List.all_eq_true.mp st_6 j (List.mem_range'_1.mpr ⟨by omega, by omega⟩)
  by_cases h3 : j < 18
  · exact List.all_eq_true.mp st_12 j (List.mem_range'_1.mpr ⟨by omega, by omega⟩)
  · exact List.all_eq_true.mp st_18 j (List.mem_range'_1.mpr ⟨by omega, by omega⟩)
theorem sn_all : (List.range 23).all (fun i => (List.range i).all (fun j => decide (FLc[pNe i j]? = some (.not (.eq (tmS i) (tmS j)))) || decide (FLc[pNe i j]? = some (.not (.eq (tmS j) (tmS i)))))) = true := by decide +kernel
theorem sc_all : (List.range 17).all (fun c => (scsL c).all (fun q => decide (lw_tbl[sPos c q.1]? = some (.stringRef (cnm c) q.1 (strT q.2.1))) && Nat.blt q.2.1 23 && (decide (tmS q.2.1 = .string (cnm c) q.1) || decide (FLc[bif Nat.beq q.1 367 then 496 else 525]? = some (.eq (tmS q.2.1) (.string (cnm c) q.1)))))) = true := by decide +kernel
theorem str_start {args : Array Value} {s : State} (hgv : (Jvm.Cond.and given_1 narrow_1).before args s = true) (hts : ∀ w ∈ lw_tbl, w.before args s = true) : ∃ adK adV : Nat → Nat, vk_S 23 lenS bytS adK adV (fun q => s.heap.size ≤ q) s s.heap ∧ ∀ (c : Nat) (q : Nat × Nat × Nat), c < 17 → q ∈ scsL c → vk_R (cnm c) q.1 (strT q.2.1) (adK q.2.1) s := by
  have key : ∀ j, j < 23 → _ := fun j hj => by
    have := st_all hj
    unfold stOk at this
    simp only [Bool.and_eq_true, decide_eq_true_eq] at this
    exact this
  have hne : ∀ i j : Nat, i < 23 → j < i → (Cond.not (Cond.eq (tmS i) (tmS j))).before args s = true ∨ (Cond.not (Cond.eq (tmS j) (tmS i))).before args s = true := by
    intro i j hi hj
    have := List.all_eq_true.mp (List.all_eq_true.mp sn_all i (List.mem_range.mpr hi)) j (List.mem_range.mpr hj)
    simp only [Bool.or_eq_true, decide_eq_true_eq] at this
    rcases this with h | h
    · exact Or.inl (FL_of hgv h)
    · exact Or.inr (FL_of hgv h)
  obtain ⟨adK, adV, h1, h2⟩ := vk_Sof (args := args) (s := s) (N := 23) (tm := tmS) (len := lenS) (byt := bytS) (A := fun q => s.heap.size ≤ q) (fun i hi => Nat.lt_trans (Nat.blt_eq.mp (key i hi).1.2) (by decide)) (fun i hi => FL_of hgv (key i hi).1.1.1.1.1) (fun i hi => FL_of hgv (key i hi).1.1.1.1.2) (fun i hi => FL_of hgv (key i hi).1.1.1.2) (fun i hi => FL_of hgv (key i hi).1.1.2) (fun i hi j hj => FL_of hgv (of_decide_eq_true (List.all_eq_true.mp (key i hi).2 j (List.mem_range.mpr hj)))) (fun i j hi hj hij => by
      rcases Nat.lt_or_gt_of_ne hij with h | h
      · exact (hne j i hj h).symm
      · exact hne i j hi h) (fun a ha => Nat.not_le.mpr ha)
  refine ⟨adK, adV, h1, fun c q hc hq => ?_⟩
  have := List.all_eq_true.mp (own_of sc_all hc) q hq
  simp only [Bool.and_eq_true, Bool.or_eq_true, decide_eq_true_eq] at this
  obtain ⟨⟨g1, g2⟩, g3⟩ := this
  have g2 := Nat.blt_eq.mp g2
  have e := h2 q.2.1 g2
  refine vk_R.of (A := args) (hts _ (List.mem_of_getElem? g1)) ?_
  rcases g3 with g3 | g3
  · rw [← g3]; exact e
  · exact va_eqR (FL_of hgv g3) e
