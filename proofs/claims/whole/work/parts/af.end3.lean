/-! the end of the reference's tick, over states -/
theorem g_end {m : Nat} {F w B : Nat → Nat} {g : GS} {AN PD : List Nat} {P : List DS} {lt lf : Nat} {DL : List (Nat × DS)} {X9 : sA} {h : eH} (hv : okV B g) (hx : okX g) (hB : ∀ k, B k < 2 ^ 29) (hB1 : B 1 < 900000) (hn : w 2 = g.2.2.1.length) (hc : oC g P lt lf DL) {Q : Option Value → eH → Prop} (kk : ∀ AN9 PD9 DL9 lt9 lf9 h, oC (fnG g) P lt9 lf9 DL9 → stars (oLg m F w lt9 lf9 AN9 PD9 DL9 X9 (fnG g)) h → Q none h) (hL : stars (oLg m F w lt lf AN PD DL X9 g) h) : EE mX15_oneTick 7 190 0 0 Q 221 [some (.ref m), none, none] [] h 0 0 := by
  obtain ⟨tp, an, D, ⟨fr, wv, hs⟩, M, ck⟩ := g
  by_cases h0 : wv 1 = 0
  · exact g_nA hv hx hB hB1 hn hc h0 kk hL
  · by_cases h5 : wv 5 = 0
    · exact g_nC hv hx hB hB1 hn hc h0 h5 kk hL
    · exact g_nB hv hx hB hB1 hn hc h0 h5 kk hL
