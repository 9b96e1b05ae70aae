/-! class and reference, call by call -/
section SL
variable {S : Sto} {A : Tn} {R : Rs}
theorem sl_person (h : Inv S A R) (x : Int32) : Sl S 92 136 [vI x] := sl_mk h (c_person h.1 h.2.2.2.2.1 x) (fun _ hA hB => r_person hA h.2.2.2.2.1 x) (w_person h.2.2.2.2.1 x)
theorem sl_like (h : Inv S A R) (a b n : Int32) : Sl S 94 138 [vI a, vI b, vI n] := sl_mk h (c_like h.1 h.2.2.2.2.1 a b n) (fun _ hA hB => r_like hA h.2.2.2.2.1 a b n) (w_like h.2.2.2.2.1 a b n)
theorem sl_quar (h : Inv S A R) (a b : Int32) (z : Bool) : Sl S 95 141 [vI a, vI b, vI (bI z)] := sl_mk h (c_quar h.1 h.2.2.2.2.1 a b z) (fun _ p _ => r_quar p h.2.2.2.2.1 a b z) (w_quar h.2.2.2.2.1 a b z)
theorem sl_heir (h : Inv S A R) (a b : Int32) : Sl S 97 145 [vI a, vI b] := sl_mk h (c_heir h.1 h.2.2.2.2.1 a b) (fun _ hA hB => r_heir hA h.2.2.2.2.1 a b) (w_heir h.2.2.2.2.1 a b)
theorem sl_thing (h : Inv S A R) (a b u : Int32) : Sl S 98 146 [vI a, vI b, vI u] := sl_mk h (c_thing h.1 h.2.2.2.2.1 a b u) (fun _ hA hB => r_thing hA h.2.2.2.2.1 a b u) (w_thing h.2.2.2.2.1 a b u)
theorem sl_work (h : Inv S A R) (a s u d : Int32) : Sl S 99 147 [vI a, vI s, vI u, vI d] := sl_mk h (c_work h.1 h.2.2.2.2.1 a s u d) (fun _ hA hB => r_work hA h.2.2.2.2.1 a s u d) (w_work h.2.2.2.2.1 a s u d)
theorem sl_feed (h : Inv S A R) (a b c d e : Int32) : Sl S 101 165 [vI a, vI b, vI c, vI d, vI e] := sl_tp h (w_feed ⟨h.2.2.2.2.2.2.2.1, h.2.2.2.2.2.2.2.2⟩ a b c d e) (c_feed h.2.1.2.2.1 h.2.2.2.2.2.2.2.1 a b c d e) (fun _ r => r_feed r.2.2.1 h.2.2.2.2.2.2.2.1 a b c d e)
theorem sl_end (h : Inv S A R) (n : Int32) : Sl S 102 167 [vI n] := sl_tp h (w_end ⟨h.2.2.2.2.2.2.2.1, h.2.2.2.2.2.2.2.2⟩ n) (c_end h.2.1.2.2.1 h.2.2.2.2.2.2.2.1 n) (fun _ r => r_end r.2.2.1 h.2.2.2.2.2.2.2.1 n)
theorem sl_of (h : Inv S A R) (x w : Int32) : Sl S 104 149 [vI x, vI w] := sl_ro h (c_of h.1 h.2.2.2.2.1 x w) (r_of h.2.2.1 h.2.2.2.2.1 x w)
theorem sl_two (h : Inv S A R) (a b w : Int32) : Sl S 105 157 [vI a, vI b, vI w] := sl_ro h (c_two h.1 h.2.2.2.2.1 a b w) (r_two h.2.2.1 h.2.2.2.2.1 a b w)
theorem sl_things (h : Inv S A R) (x w : Int32) : Sl S 106 161 [vI x, vI w] := sl_ro h (c_things h.1 h.2.2.2.2.1 x w) (r_things h.2.2.1 h.2.2.2.2.1 x w)
theorem sl_works (h : Inv S A R) (x w : Int32) : Sl S 107 163 [vI x, vI w] := sl_ro h (c_works h.1 h.2.2.2.2.1 x w) (r_works h.2.2.1 h.2.2.2.2.1 x w)
theorem sl_nod (h : Inv S A R) (l w t o : Int32) : Sl S 108 190 [vI l, vI w, vI t, vI o] := sl_mk h (c_nod h.1 h.2.1 h.2.2.2.2.1 h.2.2.2.2.2 l w t o) (fun _ hA hB => r_nod hA hB h.2.2.2.2.1 h.2.2.2.2.2 l w t o) h.2.2.2.2.1
theorem sl_had (h : Inv S A R) (l w t : Int32) : Sl S 111 201 [vI l, vI w, vI t] := sl_mk h (c_had h.1 h.2.1 h.2.2.2.2.1 h.2.2.2.2.2 l w t) (fun _ hA hB => r_had hA hB h.2.2.2.2.1 h.2.2.2.2.2 l w t) h.2.2.2.2.1
theorem sl_can (h : Inv S A R) (l w : Int32) : Sl S 112 204 [vI l, vI w] := sl_mk h (c_can h.1 h.2.1 h.2.2.2.2.1 h.2.2.2.2.2 l w) (fun _ hA hB => r_can hA hB h.2.2.2.2.1 h.2.2.2.2.2 l w) h.2.2.2.2.1
theorem sl_bars (h : Inv S A R) (l w : Int32) : Sl S 113 208 [vI l, vI w] := sl_mk h (c_bars h.1 h.2.1 h.2.2.2.2.1 h.2.2.2.2.2 l w) (fun _ hA hB => r_bars hA hB h.2.2.2.2.1 h.2.2.2.2.2 l w) h.2.2.2.2.1
theorem sl_does (h : Inv S A R) (l w : Int32) : Sl S 114 209 [vI l, vI w] := sl_mk h (c_does h.1 h.2.1 h.2.2.2.2.1 h.2.2.2.2.2 l w) (fun _ hA hB => r_does hA hB h.2.2.2.2.1 h.2.2.2.2.2 l w) (w_does h.2.2.2.2.1 l w)
theorem sl_row (h : Inv S A R) (x : Int32) : Sl S 115 213 [vI x] := sl_mk h (c_row h.1 h.2.2.2.2.1 x) (fun _ hA hB => r_row hA h.2.2.2.2.1 x) (w_row h.2.2.2.2.1 x)
theorem sl_judged (h : Inv S A R) (l x : Int32) : Sl S 116 214 [vI l, vI x] := sl_mk h (c_judged h.1 h.2.1 h.2.2.2.2.1 h.2.2.2.2.2 l x) (fun _ hA hB => r_judged hA hB h.2.2.2.2.1 h.2.2.2.2.2 l x) h.2.2.2.2.1
theorem sl_then (h : Inv S A R) (l x : Int32) : Sl S 118 219 [vI l, vI x] := sl_mk h (c_then h.1 h.2.1 h.2.2.2.2.1 h.2.2.2.2.2 l x) (fun _ hA hB => r_then hA hB h.2.2.2.2.1 h.2.2.2.2.2 l x) h.2.2.2.2.1
theorem sl_chain (h : Inv S A R) (l w : Int32) : Sl S 119 220 [vI l, vI w] := sl_mk h (c_chain h.1 h.2.1 h.2.2.2.2.1 h.2.2.2.2.2 l w) (fun _ hA hB => r_chain hA hB h.2.2.2.2.1 h.2.2.2.2.2 l w) h.2.2.2.2.1
theorem sl_all (h : Inv S A R) (l x : Int32) : Sl S 120 226 [vI l, vI x] := by
  obtain ⟨S1, v, c1, c2, c3, c4⟩ := c_all h.1 h.2.1 h.2.2.2.2.1 h.2.2.2.2.2 l x
  refine sl_mk h ⟨S1, c1, c2, c3⟩ (fun S2 a b => ?_) h.2.2.2.2.1
  obtain ⟨S3, v', m1, m2, m3, m4⟩ := r_all a b h.2.2.2.2.1 h.2.2.2.2.2 l x
  have e := c4.uniq m4
  subst e
  exact ⟨S3, m1, m2, m3⟩
theorem sl_worth (h : Inv S A R) (p : Int32) : Sl S 121 228 [vI p] := sl_mk h (c_worth h.1 h.2.2.2.2.1 p) (fun _ hA hB => r_worth hA h.2.2.2.2.1 p) h.2.2.2.2.1
theorem sl_share (h : Inv S A R) (p o z : Int32) : Sl S 122 231 [vI p, vI o, vI z] := sl_mk h (c_share h.1 h.2.2.2.2.1 p o z) (fun _ hA hB => r_share hA h.2.2.2.2.1 p o z) h.2.2.2.2.1
theorem sl_stopped (h : Inv S A R) : Sl S 123 234 [] := sl_ro h (c_stopped h.1 h.2.2.2.2.1) (m_stopped h.2.2.1 h.2.2.2.2.1)
theorem sl_least (h : Inv S A R) : Sl S 124 236 [] := by
  obtain ⟨S1, v, c1, c2, c3, c4⟩ := c_least h.1 h.2.2.2.2.1
  refine sl_mk h ⟨S1, c1, c2, c3⟩ (fun S2 a b => ?_) h.2.2.2.2.1
  obtain ⟨S3, v', m1, m2, m4⟩ := r_least a h.2.2.2.2.1
  have e := c4.uniq m4
  subst e
  refine ⟨S3, m1, FM.of m2 (fun t i hp => ?_) rfl, a.fr m2 (fun t h1 h2 => ?_)⟩
  · have e : t = 87 := by simpa [pL] using hp
    subst e
    rfl
  · have e : t ≠ 87 := by omega
    simp [pL, e]
theorem sl_lay (h : Inv S A R) (s p k : Int32) : Sl S 125 237 [vI s, vI p, vI k] := sl_mk h (c_lay h.1 h.2.2.2.2.1 s p k) (fun _ hA hB => r_lay hA h.2.2.2.2.1 s p k) h.2.2.2.2.1
theorem sl_swap (h : Inv S A R) (t f u g : Int32) : Sl S 126 241 [vI t, vI f, vI u, vI g] := sl_mk h (c_swap h.1 h.2.2.2.2.1 t f u g) (fun _ hA hB => r_swap hA h.2.2.2.2.1 t f u g) (w_swap h.2.2.2.2.1 t f u g)
theorem w_trades {A : Tn} (h : WF A) : WF (o_trades A).2 := tsF_W h
theorem sl_trades (h : Inv S A R) : Sl S 127 246 [] := sl_mk h (c_trades h.1 h.2.2.2.2.1) (fun _ hA hB => r_trades hA h.2.2.2.2.1) (w_trades h.2.2.2.2.1)
theorem sl_dies (h : Inv S A R) (x : Int32) : Sl S 128 249 [vI x] := sl_mk h (c_dies h.1 h.2.2.2.2.1 x) (fun _ hA hB => r_dies hA h.2.2.2.2.1 x) (w_dies h.2.2.2.2.1 x)
theorem sl_seed (h : Inv S A R) (x : Int32) : Sl S 129 254 [vI x] := sl_mk h (c_seed h.1 h.2.2.2.2.1 x) (fun _ hA hB => r_seed hA h.2.2.2.2.1 x) (w_seed h.2.2.2.2.1 x)
theorem sl_years (h : Inv S A R) (l n : Int32) : Sl S 130 255 [vI l, vI n] := by
  obtain ⟨S1, c1, c2, c3, c4⟩ := c_years h.1 h.2.1 h.2.2.2.2.1 h.2.2.2.2.2 l n
  exact sl_mkD h ⟨S1, c1, c2, c3⟩ (fun _ a b => r_years a b h.2.2.2.2.1 h.2.2.2.2.2 l n) c4
theorem sl_runs (h : Inv S A R) (l n y x : Int32) : Sl S 131 261 [vI l, vI n, vI y, vI x] := sl_mkD h (c_runs h.1 h.2.1 h.2.2.2.2.1 h.2.2.2.2.2 l n y x) (fun _ a b => r_runs a b h.2.2.2.2.1 h.2.2.2.2.2 l n y x) h.2.2.2.2.1
theorem sl_towards (h : Inv S A R) (w : Int32) : Sl S 132 263 [vI w] := by
  refine sl_mk h ⟨S, c_tow h.1 h.2.2.2.2.1 w, FC.rf, h.1⟩ (fun S2 a b => ?_) h.2.2.2.2.1
  obtain ⟨S3, m1, m2⟩ := r_tow a h.2.2.2.2.1 w
  refine ⟨S3, m1, FM.of m2 (fun t i hp => ?_) rfl, a.fr m2 (fun t h1 h2 => ?_)⟩
  · have e : t = 95 ∨ t = 96 := by simpa [pL] using hp
    rcases e with rfl | rfl <;> rfl
  · have e1 : t ≠ 95 := by omega
    have e2 : t ≠ 96 := by omega
    simp [pL, e1, e2]
theorem sl_count (h : Inv S A R) (w : Int32) : Sl S 133 265 [vI w] := sl_ro h (c_count h.1 h.2.1 h.2.2.2.2.1 w) (r_count h.2.2.1 h.2.2.2.1 h.2.2.2.2.1 w)
end SL
