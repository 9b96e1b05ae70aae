/-! what is checked of the tables, once and by the kernel -/
def pcO (pc : Nat) (o : Int) : Bool := decide (0 ≤ (pc : Int) + o)
def st1 (k i : Nat) : Bool := Nat.blt i (m_l k) && (match i with | 0 => true | i' + 1 => !((m_s k).contains i'))
def st2 (k i : Nat) : Bool := Nat.blt (i + 1) (m_l k) && (m_s k).contains i && (match i with | 0 => true | i' + 1 => !((m_s k).contains i'))
def insOk (k pc : Nat) (i : Instr) (n : Nat) : Bool := match i with
  | .iconst _ => Nat.beq n 1
  | .bipush _ => Nat.beq n 2
  | .sipush _ => Nat.beq n 3
  | .lconst _ => Nat.beq n 1
  | .ldc _ => Nat.beq n 2
  | .ldc_w _ => Nat.beq n 3
  | .ldc2_w _ => Nat.beq n 3
  | .iload _ => Nat.beq n 2
  | .iload_n _ => Nat.beq n 1
  | .lload _ => Nat.beq n 2
  | .lload_n _ => Nat.beq n 1
  | .aload _ => Nat.beq n 2
  | .aload_n _ => Nat.beq n 1
  | .istore i => Nat.beq n 2 && st1 k i
  | .istore_n i => Nat.beq n 1 && st1 k i.val
  | .lstore i => Nat.beq n 2 && st2 k i
  | .lstore_n i => Nat.beq n 1 && st2 k i.val
  | .astore i => Nat.beq n 2 && st1 k i
  | .astore_n i => Nat.beq n 1 && st1 k i.val
  | .iinc i _ => Nat.beq n 3 && st1 k i
  | .ifCond _ o => Nat.beq n 3 && pcO pc o
  | .if_icmp _ o => Nat.beq n 3 && pcO pc o
  | .goto o => Nat.beq n 3 && pcO pc o
  | .tableswitch d lo hi offs => pcO pc d && offs.toList.all (pcO pc) && decide (hi + 1 = lo + offs.toList.length)
  | .lookupswitch d ps => pcO pc d && ps.toList.all (fun q => pcO pc q.2) && (ps.toList.zip (ps.toList.drop 1)).all (fun q => decide (q.1.1 < q.2.1))
  | .getfield _ => Nat.beq n 3
  | .putfield _ => Nat.beq n 3
  | .getstatic _ => Nat.beq n 3
  | .invokevirtual _ => Nat.beq n 3
  | .invokestatic _ => Nat.beq n 3
  | _ => Nat.beq n 1 || (match i with | .new _ => true | .invokespecial _ => true | _ => false)
def chkE (k : Nat) (q : Nat × Instr × Nat) : Bool := decide (decode (m_b k) q.1 = .ok (q.2.1, q.2.2)) && insOk k q.1 q.2.1 q.2.2
def chkM (k : Nat) : Bool := (codeL k).all (chkE k) && (Nat.ble (m_l k) 41 && Nat.ble 1 (m_v k))
theorem chk_0 : (List.range' 0 8).all chkM = true := by decide +kernel
theorem chk_8 : (List.range' 8 8).all chkM = true := by decide +kernel
theorem chk_16 : (List.range' 16 8).all chkM = true := by decide +kernel
theorem chk_24 : (List.range' 24 8).all chkM = true := by decide +kernel
theorem chk_32 : (List.range' 32 8).all chkM = true := by decide +kernel
theorem chk_40 : (List.range' 40 8).all chkM = true := by decide +kernel
theorem chk_48 : (List.range' 48 8).all chkM = true := by decide +kernel
theorem chk_56 : (List.range' 56 8).all chkM = true := by decide +kernel
theorem chk_64 : (List.range' 64 8).all chkM = true := by decide +kernel
theorem chk_72 : (List.range' 72 8).all chkM = true := by decide +kernel
theorem chk_80 : (List.range' 80 8).all chkM = true := by decide +kernel
theorem chk_88 : (List.range' 88 8).all chkM = true := by decide +kernel
theorem chk_96 : (List.range' 96 8).all chkM = true := by decide +kernel
theorem chk_104 : (List.range' 104 8).all chkM = true := by decide +kernel
theorem chk_112 : (List.range' 112 8).all chkM = true := by decide +kernel
theorem chk_120 : (List.range' 120 8).all chkM = true := by decide +kernel
theorem chk_128 : (List.range' 128 8).all chkM = true := by decide +kernel
theorem chk_136 : (List.range' 136 8).all chkM = true := by decide +kernel
theorem chk_144 : (List.range' 144 8).all chkM = true := by decide +kernel
theorem chk_152 : (List.range' 152 8).all chkM = true := by decide +kernel
theorem chk_160 : (List.range' 160 8).all chkM = true := by decide +kernel
theorem chk_168 : (List.range' 168 8).all chkM = true := by decide +kernel
theorem chk_176 : (List.range' 176 8).all chkM = true := by decide +kernel
theorem chk_184 : (List.range' 184 8).all chkM = true := by decide +kernel
theorem chk_192 : (List.range' 192 8).all chkM = true := by decide +kernel
theorem chk_200 : (List.range' 200 8).all chkM = true := by decide +kernel
theorem chk_208 : (List.range' 208 8).all chkM = true := by decide +kernel
theorem chk_216 : (List.range' 216 8).all chkM = true := by decide +kernel
theorem chk_224 : (List.range' 224 8).all chkM = true := by decide +kernel
theorem chk_232 : (List.range' 232 8).all chkM = true := by decide +kernel
theorem chk_240 : (List.range' 240 8).all chkM = true := by decide +kernel
theorem chk_248 : (List.range' 248 8).all chkM = true := by decide +kernel
theorem chk_256 : (List.range' 256 8).all chkM = true := by decide +kernel
theorem chk_264 : (List.range' 264 8).all chkM = true := by decide +kernel
theorem chk_272 : (List.range' 272 8).all chkM = true := by decide +kernel
theorem chk_280 : (List.range' 280 7).all chkM = true := by decide +kernel
theorem chl_0 : ((mc_287.drop 0).take 53).all (chkE 287) = true := by decide +kernel
theorem chl_53 : ((mc_287.drop 53).take 53).all (chkE 287) = true := by decide +kernel
theorem chl_106 : ((mc_287.drop 106).take 53).all (chkE 287) = true := by decide +kernel
theorem chl_159 : ((mc_287.drop 159).take 53).all (chkE 287) = true := by decide +kernel
theorem chl_212 : ((mc_287.drop 212).take 53).all (chkE 287) = true := by decide +kernel
theorem chl_265 : ((mc_287.drop 265).take 53).all (chkE 287) = true := by decide +kernel
theorem chl_318 : ((mc_287.drop 318).take 53).all (chkE 287) = true := by decide +kernel
theorem chl_371 : ((mc_287.drop 371).take 53).all (chkE 287) = true := by decide +kernel
theorem chl_424 : ((mc_287.drop 424).take 53).all (chkE 287) = true := by decide +kernel
theorem chl_477 : ((mc_287.drop 477).take 53).all (chkE 287) = true := by decide +kernel
theorem chl_530 : ((mc_287.drop 530).take 53).all (chkE 287) = true := by decide +kernel
theorem chl_583 : ((mc_287.drop 583).take 53).all (chkE 287) = true := by decide +kernel
theorem chl_636 : ((mc_287.drop 636).take 53).all (chkE 287) = true := by decide +kernel
theorem chl_689 : ((mc_287.drop 689).take 53).all (chkE 287) = true := by decide +kernel
theorem chl_742 : ((mc_287.drop 742).take 53).all (chkE 287) = true := by decide +kernel
theorem chl_795 : ((mc_287.drop 795).take 53).all (chkE 287) = true := by decide +kernel
theorem chl_848 : ((mc_287.drop 848).take 53).all (chkE 287) = true := by decide +kernel
theorem chl_901 : ((mc_287.drop 901).take 53).all (chkE 287) = true := by decide +kernel
theorem chl_954 : ((mc_287.drop 954).take 53).all (chkE 287) = true := by decide +kernel
theorem chl_1007 : ((mc_287.drop 1007).take 53).all (chkE 287) = true := by decide +kernel
theorem all_cut {α : Type} {l : List α} {f : α → Bool} (n : Nat) (h1 : (l.take n).all f = true) (h2 : (l.drop n).all f = true) : l.all f = true := by
  have e := List.take_append_drop n l
  rw [← e, List.all_append, h1, h2]
  rfl
theorem cht_1060 : (mc_287.drop 1060).all (chkE 287) = true := by decide +kernel
theorem cht_1007 : (mc_287.drop 1007).all (chkE 287) = true := all_cut 53 chl_1007 (by rw [List.drop_drop]; exact cht_1060)
theorem cht_954 : (mc_287.drop 954).all (chkE 287) = true := all_cut 53 chl_954 (by rw [List.drop_drop]; exact cht_1007)
theorem cht_901 : (mc_287.drop 901).all (chkE 287) = true := all_cut 53 chl_901 (by rw [List.drop_drop]; exact cht_954)
theorem cht_848 : (mc_287.drop 848).all (chkE 287) = true := all_cut 53 chl_848 (by rw [List.drop_drop]; exact cht_901)
theorem cht_795 : (mc_287.drop 795).all (chkE 287) = true := all_cut 53 chl_795 (by rw [List.drop_drop]; exact cht_848)
theorem cht_742 : (mc_287.drop 742).all (chkE 287) = true := all_cut 53 chl_742 (by rw [List.drop_drop]; exact cht_795)
theorem cht_689 : (mc_287.drop 689).all (chkE 287) = true := all_cut 53 chl_689 (by rw [List.drop_drop]; exact cht_742)
theorem cht_636 : (mc_287.drop 636).all (chkE 287) = true := all_cut 53 chl_636 (by rw [List.drop_drop]; exact cht_689)
theorem cht_583 : (mc_287.drop 583).all (chkE 287) = true := all_cut 53 chl_583 (by rw [List.drop_drop]; exact cht_636)
theorem cht_530 : (mc_287.drop 530).all (chkE 287) = true := all_cut 53 chl_530 (by rw [List.drop_drop]; exact cht_583)
theorem cht_477 : (mc_287.drop 477).all (chkE 287) = true := all_cut 53 chl_477 (by rw [List.drop_drop]; exact cht_530)
theorem cht_424 : (mc_287.drop 424).all (chkE 287) = true := all_cut 53 chl_424 (by rw [List.drop_drop]; exact cht_477)
theorem cht_371 : (mc_287.drop 371).all (chkE 287) = true := all_cut 53 chl_371 (by rw [List.drop_drop]; exact cht_424)
theorem cht_318 : (mc_287.drop 318).all (chkE 287) = true := all_cut 53 chl_318 (by rw [List.drop_drop]; exact cht_371)
theorem cht_265 : (mc_287.drop 265).all (chkE 287) = true := all_cut 53 chl_265 (by rw [List.drop_drop]; exact cht_318)
theorem cht_212 : (mc_287.drop 212).all (chkE 287) = true := all_cut 53 chl_212 (by rw [List.drop_drop]; exact cht_265)
theorem cht_159 : (mc_287.drop 159).all (chkE 287) = true := all_cut 53 chl_159 (by rw [List.drop_drop]; exact cht_212)
theorem cht_106 : (mc_287.drop 106).all (chkE 287) = true := all_cut 53 chl_106 (by rw [List.drop_drop]; exact cht_159)
theorem cht_53 : (mc_287.drop 53).all (chkE 287) = true := all_cut 53 chl_53 (by rw [List.drop_drop]; exact cht_106)
theorem cht_0 : (mc_287.drop 0).all (chkE 287) = true := all_cut 53 chl_0 (by rw [List.drop_drop]; exact cht_53)
theorem chk_287 : chkM 287 = true := by
  have h : (codeL 287).all (chkE 287) = true := cht_0
  unfold chkM
  rw [h]
  decide +kernel
theorem chk_288 : chkM 288 = true := by decide +kernel
theorem rg_in {f : Nat → Bool} {k a n : Nat} (h : (List.range' a n).all f = true) (h1 : a ≤ k) (h2 : k < a + n) : f k = true := List.all_eq_true.mp h k (List.mem_range'_1.mpr ⟨h1, h2⟩)
theorem chk_all {k : Nat} (h : k < 289) : chkM k = true := by
  by_cases h0 : k < 8
  · exact rg_in chk_0 (by omega) (by omega)
  by_cases h8 : k < 16
  · exact rg_in chk_8 (by omega) (by omega)
  by_cases h16 : k < 24
  · exact rg_in chk_16 (by omega) (by omega)
  by_cases h24 : k < 32
  · exact rg_in chk_24 (by omega) (by omega)
  by_cases h32 : k < 40
  · exact rg_in chk_32 (by omega) (by omega)
  by_cases h40 : k < 48
  · exact rg_in chk_40 (by omega) (by omega)
  by_cases h48 : k < 56
  · exact rg_in chk_48 (by omega) (by omega)
  by_cases h56 : k < 64
  · exact rg_in chk_56 (by omega) (by omega)
  by_cases h64 : k < 72
  · exact rg_in chk_64 (by omega) (by omega)
  by_cases h72 : k < 80
  · exact rg_in chk_72 (by omega) (by omega)
  by_cases h80 : k < 88
  · exact rg_in chk_80 (by omega) (by omega)
  by_cases h88 : k < 96
  · exact rg_in chk_88 (by omega) (by omega)
  by_cases h96 : k < 104
  · exact rg_in chk_96 (by omega) (by omega)
  by_cases h104 : k < 112
  · exact rg_in chk_104 (by omega) (by omega)
  by_cases h112 : k < 120
  · exact rg_in chk_112 (by omega) (by omega)
  by_cases h120 : k < 128
  · exact rg_in chk_120 (by omega) (by omega)
  by_cases h128 : k < 136
  · exact rg_in chk_128 (by omega) (by omega)
  by_cases h136 : k < 144
  · exact rg_in chk_136 (by omega) (by omega)
  by_cases h144 : k < 152
  · exact rg_in chk_144 (by omega) (by omega)
  by_cases h152 : k < 160
  · exact rg_in chk_152 (by omega) (by omega)
  by_cases h160 : k < 168
  · exact rg_in chk_160 (by omega) (by omega)
  by_cases h168 : k < 176
  · exact rg_in chk_168 (by omega) (by omega)
  by_cases h176 : k < 184
  · exact rg_in chk_176 (by omega) (by omega)
  by_cases h184 : k < 192
  · exact rg_in chk_184 (by omega) (by omega)
  by_cases h192 : k < 200
  · exact rg_in chk_192 (by omega) (by omega)
  by_cases h200 : k < 208
  · exact rg_in chk_200 (by omega) (by omega)
  by_cases h208 : k < 216
  · exact rg_in chk_208 (by omega) (by omega)
  by_cases h216 : k < 224
  · exact rg_in chk_216 (by omega) (by omega)
  by_cases h224 : k < 232
  · exact rg_in chk_224 (by omega) (by omega)
  by_cases h232 : k < 240
  · exact rg_in chk_232 (by omega) (by omega)
  by_cases h240 : k < 248
  · exact rg_in chk_240 (by omega) (by omega)
  by_cases h248 : k < 256
  · exact rg_in chk_248 (by omega) (by omega)
  by_cases h256 : k < 264
  · exact rg_in chk_256 (by omega) (by omega)
  by_cases h264 : k < 272
  · exact rg_in chk_264 (by omega) (by omega)
  by_cases h272 : k < 280
  · exact rg_in chk_272 (by omega) (by omega)
  by_cases h280 : k < 287
  · exact rg_in chk_280 (by omega) (by omega)
  by_cases hl : k = 287
  · rw [hl]; exact chk_287
  · have h6 : k = 288 := by omega
    rw [h6]; exact chk_288
