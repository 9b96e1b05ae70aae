/-- the words that every method rests on -/
def GT : List Cond := lw_tbl.filter goodWord
theorem GT_of {w : Cond} {p : Nat} (h : lw_tbl[p]? = some w) (hg : goodWord w = true) : w ∈ GT := List.mem_filter.mpr ⟨List.mem_of_getElem? h, hg⟩
theorem GT_good {w : Cond} (h : w ∈ GT) : goodWord w = true := (List.mem_filter.mp h).2
def isW (p : Nat) (w : Cond) : Bool := match lw_tbl[p]? with
  | some w' => decide (w' = w) && goodWord w
  | none => false
theorem isW_in {p : Nat} {w : Cond} (h : isW p w = true) : w ∈ GT := by
  unfold isW at h
  split at h
  · rename_i w' hw
    simp only [Bool.and_eq_true, decide_eq_true_eq] at h
    rw [h.1] at hw
    exact GT_of hw h.2
  · cases h
def fldOk (c : Nat) (q : Nat × Nat × Nat × Nat) : Bool := bif Nat.beq q.2.1 100 then
    (match q.2.2.1 with
    | 0 => isW q.2.2.2 (.fieldLink (cnm c) q.1 "java/lang/String" "value" "[B")
    | 1 => isW q.2.2.2 (.fieldLink (cnm c) q.1 "java/lang/String" "coder" "B")
    | _ => false)
  else (match vwCl[q.2.1]? with
    | some r => Nat.blt q.2.2.1 r.2.2 && isW q.2.2.2 (.fieldLink (cnm c) q.1 r.1 (r.2.1 q.2.2.1).2.1 (r.2.1 q.2.2.1).2.2.1) && decide ((r.2.1 q.2.2.1).1 = r.1)
    | none => false)
theorem fld_ok : (List.range 17).all (fun c => (fldL c).all (fldOk c)) = true := by decide +kernel
theorem cst_ok : (List.range 17).all (fun c => (cstL c).all (fun q => isW q.2.2 (.constant (cnm c) q.1 q.2.1))) = true := by decide +kernel
theorem lcs_ok : (List.range 17).all (fun c => (lcsL c).all (fun q => isW q.2.2 (.constantLong (cnm c) q.1 q.2.1))) = true := by decide +kernel
/-- a method link: the word, the callee's level -/
def mthOk (c : Nat) (q : Nat × Nat × Nat × Nat) : Bool := Nat.blt q.2.2.1 289 && (match q.2.1 with
  | 0 => isW q.2.2.2 (.methodLink (cnm c) q.1 (m_y q.2.2.1)) && !(isSt q.2.2.1)
  | 1 => isW q.2.2.2 (.methodLink (cnm c) q.1 (m_y q.2.2.1)) && isSt q.2.2.1
  | 2 => decide (lw_tbl[q.2.2.2]? = some (.methodLinkNest (cnm c) q.1 (m_y q.2.2.1) "OwnedByTwos")) && isSt q.2.2.1
  | _ => false)
theorem mth_ok : (List.range 17).all (fun c => (mthL c).all (mthOk c)) = true := by decide +kernel
def ynOk (y : MethodName) (n : Nat) : Bool := decide (y.cls ≠ "java/lang/invoke/MethodHandle") && decide (y.cls ≠ "java/lang/invoke/VarHandle") && decide ((parseMethodDescriptor y.desc).map (fun d => d.parameters.length) = some n) && plainName y.cls
/-- Math's four are the machine's own rows -/
def isPr (k : Nat) : Bool := Nat.ble 272 k && Nat.ble k 275
def metOk (k : Nat) : Bool := isW (m_w k) (.code (m_y k) (m_b k) (m_l k) (m_r k)) && isW (mps k).2.2 (.initialized (m_y k).cls) && ynOk (m_y k) (m_n k) && decide ((m_y k).cls = cnm (m_o k)) &&
  (bif isSt k then isW (mps k).1 (.static (m_y k)) else isW (mps k).1 (.instanceMethod (m_y k)) && isW (mps k).2.1 (.selects (m_y k).cls (m_y k) (m_y k)))
theorem met_0 : (List.range' 0 6).all metOk = true := by decide +kernel
theorem met_6 : (List.range' 6 6).all metOk = true := by decide +kernel
theorem met_12 : (List.range' 12 6).all metOk = true := by decide +kernel
theorem met_18 : (List.range' 18 6).all metOk = true := by decide +kernel
theorem met_24 : (List.range' 24 6).all metOk = true := by decide +kernel
theorem met_30 : (List.range' 30 6).all metOk = true := by decide +kernel
theorem met_36 : (List.range' 36 6).all metOk = true := by decide +kernel
theorem met_42 : (List.range' 42 6).all metOk = true := by decide +kernel
theorem met_48 : (List.range' 48 6).all metOk = true := by decide +kernel
theorem met_54 : (List.range' 54 6).all metOk = true := by decide +kernel
theorem met_60 : (List.range' 60 6).all metOk = true := by decide +kernel
theorem met_66 : (List.range' 66 6).all metOk = true := by decide +kernel
theorem met_72 : (List.range' 72 6).all metOk = true := by decide +kernel
theorem met_78 : (List.range' 78 6).all metOk = true := by decide +kernel
theorem met_84 : (List.range' 84 6).all metOk = true := by decide +kernel
theorem met_90 : (List.range' 90 6).all metOk = true := by decide +kernel
theorem met_96 : (List.range' 96 6).all metOk = true := by decide +kernel
theorem met_102 : (List.range' 102 6).all metOk = true := by decide +kernel
theorem met_108 : (List.range' 108 6).all metOk = true := by decide +kernel
theorem met_114 : (List.range' 114 6).all metOk = true := by decide +kernel
theorem met_120 : (List.range' 120 6).all metOk = true := by decide +kernel
theorem met_126 : (List.range' 126 6).all metOk = true := by decide +kernel
theorem met_132 : (List.range' 132 6).all metOk = true := by decide +kernel
theorem met_138 : (List.range' 138 6).all metOk = true := by decide +kernel
theorem met_144 : (List.range' 144 6).all metOk = true := by decide +kernel
theorem met_150 : (List.range' 150 6).all metOk = true := by decide +kernel
theorem met_156 : (List.range' 156 6).all metOk = true := by decide +kernel
theorem met_162 : (List.range' 162 6).all metOk = true := by decide +kernel
theorem met_168 : (List.range' 168 6).all metOk = true := by decide +kernel
theorem met_174 : (List.range' 174 6).all metOk = true := by decide +kernel
theorem met_180 : (List.range' 180 6).all metOk = true := by decide +kernel
theorem met_186 : (List.range' 186 6).all metOk = true := by decide +kernel
theorem met_192 : (List.range' 192 6).all metOk = true := by decide +kernel
theorem met_198 : (List.range' 198 6).all metOk = true := by decide +kernel
theorem met_204 : (List.range' 204 6).all metOk = true := by decide +kernel
theorem met_210 : (List.range' 210 6).all metOk = true := by decide +kernel
theorem met_216 : (List.range' 216 6).all metOk = true := by decide +kernel
theorem met_222 : (List.range' 222 6).all metOk = true := by decide +kernel
theorem met_228 : (List.range' 228 6).all metOk = true := by decide +kernel
theorem met_234 : (List.range' 234 6).all metOk = true := by decide +kernel
theorem met_240 : (List.range' 240 6).all metOk = true := by decide +kernel
theorem met_246 : (List.range' 246 6).all metOk = true := by decide +kernel
theorem met_252 : (List.range' 252 6).all metOk = true := by decide +kernel
theorem met_258 : (List.range' 258 6).all metOk = true := by decide +kernel
theorem met_264 : (List.range' 264 6).all metOk = true := by decide +kernel
theorem met_270 : (List.range' 270 2).all metOk = true := by decide +kernel
theorem met_276 : (List.range' 276 6).all metOk = true := by decide +kernel
theorem met_282 : (List.range' 282 5).all metOk = true := by decide +kernel
theorem met_288 : metOk 288 = true := by decide +kernel
theorem isPr_no {k : Nat} (h : isPr k = false) : k < 272 ∨ 275 < k := by
  unfold isPr at h
  cases h1 : Nat.ble 272 k with
  | false => exact Or.inl (Nat.lt_of_not_le (fun e => by rw [Nat.ble_eq.mpr e] at h1; cases h1))
  | true =>
    rw [h1] at h
    cases h2 : Nat.ble k 275 with
    | false => exact Or.inr (Nat.lt_of_not_le (fun e => by rw [Nat.ble_eq.mpr e] at h2; cases h2))
    | true => rw [h2] at h; cases h
theorem met_all {k : Nat} (h : k < 289) (hl : k ≠ 287) (hp : isPr k = false) : metOk k = true := by
  have hp := isPr_no hp
  by_cases h0 : k < 6
  · exact rg_in met_0 (by omega) (by omega)
  by_cases h6 : k < 12
  · exact rg_in met_6 (by omega) (by omega)
  by_cases h12 : k < 18
  · exact rg_in met_12 (by omega) (by omega)
  by_cases h18 : k < 24
  · exact rg_in met_18 (by omega) (by omega)
  by_cases h24 : k < 30
  · exact rg_in met_24 (by omega) (by omega)
  by_cases h30 : k < 36
  · exact rg_in met_30 (by omega) (by omega)
  by_cases h36 : k < 42
  · exact rg_in met_36 (by omega) (by omega)
  by_cases h42 : k < 48
  · exact rg_in met_42 (by omega) (by omega)
  by_cases h48 : k < 54
  · exact rg_in met_48 (by omega) (by omega)
  by_cases h54 : k < 60
  · exact rg_in met_54 (by omega) (by omega)
  by_cases h60 : k < 66
  · exact rg_in met_60 (by omega) (by omega)
  by_cases h66 : k < 72
  · exact rg_in met_66 (by omega) (by omega)
  by_cases h72 : k < 78
  · exact rg_in met_72 (by omega) (by omega)
  by_cases h78 : k < 84
  · exact rg_in met_78 (by omega) (by omega)
  by_cases h84 : k < 90
  · exact rg_in met_84 (by omega) (by omega)
  by_cases h90 : k < 96
  · exact rg_in met_90 (by omega) (by omega)
  by_cases h96 : k < 102
  · exact rg_in met_96 (by omega) (by omega)
  by_cases h102 : k < 108
  · exact rg_in met_102 (by omega) (by omega)
  by_cases h108 : k < 114
  · exact rg_in met_108 (by omega) (by omega)
  by_cases h114 : k < 120
  · exact rg_in met_114 (by omega) (by omega)
  by_cases h120 : k < 126
  · exact rg_in met_120 (by omega) (by omega)
  by_cases h126 : k < 132
  · exact rg_in met_126 (by omega) (by omega)
  by_cases h132 : k < 138
  · exact rg_in met_132 (by omega) (by omega)
  by_cases h138 : k < 144
  · exact rg_in met_138 (by omega) (by omega)
  by_cases h144 : k < 150
  · exact rg_in met_144 (by omega) (by omega)
  by_cases h150 : k < 156
  · exact rg_in met_150 (by omega) (by omega)
  by_cases h156 : k < 162
  · exact rg_in met_156 (by omega) (by omega)
  by_cases h162 : k < 168
  · exact rg_in met_162 (by omega) (by omega)
  by_cases h168 : k < 174
  · exact rg_in met_168 (by omega) (by omega)
  by_cases h174 : k < 180
  · exact rg_in met_174 (by omega) (by omega)
  by_cases h180 : k < 186
  · exact rg_in met_180 (by omega) (by omega)
  by_cases h186 : k < 192
  · exact rg_in met_186 (by omega) (by omega)
  by_cases h192 : k < 198
  · exact rg_in met_192 (by omega) (by omega)
  by_cases h198 : k < 204
  · exact rg_in met_198 (by omega) (by omega)
  by_cases h204 : k < 210
  · exact rg_in met_204 (by omega) (by omega)
  by_cases h210 : k < 216
  · exact rg_in met_210 (by omega) (by omega)
  by_cases h216 : k < 222
  · exact rg_in met_216 (by omega) (by omega)
  by_cases h222 : k < 228
  · exact rg_in met_222 (by omega) (by omega)
  by_cases h228 : k < 234
  · exact rg_in met_228 (by omega) (by omega)
  by_cases h234 : k < 240
  · exact rg_in met_234 (by omega) (by omega)
  by_cases h240 : k < 246
  · exact rg_in met_240 (by omega) (by omega)
  by_cases h246 : k < 252
  · exact rg_in met_246 (by omega) (by omega)
  by_cases h252 : k < 258
  · exact rg_in met_252 (by omega) (by omega)
  by_cases h258 : k < 264
  · exact rg_in met_258 (by omega) (by omega)
  by_cases h264 : k < 270
  · exact rg_in met_264 (by omega) (by omega)
  by_cases h270 : k < 272
  · exact rg_in met_270 (by omega) (by omega)
  by_cases h276 : k < 282
  · exact rg_in met_276 (by omega) (by omega)
  by_cases h282 : k < 287
  · exact rg_in met_282 (by omega) (by omega)
  have h6 : k = 288 := by omega
  rw [h6]; exact met_288
/-- calls go down: by level, or by copy within a group -/
def dnOk (k : Nat) : Bool := (codeL k).all (fun q => match q.2.1 with
  | .invokevirtual idx => (match lk (mthL (m_o k)) idx with
    | some (_, k', _) => (match m_g k' with | 0 => Nat.blt (m_v k') (m_v k) | gg + 1 => bif Nat.beq (m_g k) (gg + 1) then Nat.ble (m_v k') (m_v k) else Nat.blt (m_v k' + (bif Nat.beq gg 0 then 16 else 44)) (m_v k)) && !(Nat.beq k' 287)
    | none => true)
  | .invokestatic idx => (match lk (mthL (m_o k)) idx with
    | some (_, k', _) => (match m_g k' with | 0 => Nat.blt (m_v k') (m_v k) | gg + 1 => bif Nat.beq (m_g k) (gg + 1) then Nat.ble (m_v k') (m_v k) else Nat.blt (m_v k' + (bif Nat.beq gg 0 then 16 else 44)) (m_v k)) && !(Nat.beq k' 287)
    | none => bif Nat.beq (m_o k) 6 && Nat.beq idx 83 then Nat.ble 2 (m_v k) else true)
  | _ => true)
theorem dn_ok : (List.range 289).all dnOk = true := by decide +kernel
theorem lay_t : lay.all (fun q => Nat.blt q.1 100 && Nat.blt q.2 (cnt q.1)) = true := by decide +kernel
theorem lay_n : lay.Nodup := by decide +kernel
