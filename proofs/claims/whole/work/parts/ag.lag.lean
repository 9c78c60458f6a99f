/-! the reference: lags, then the end of a tick -/
set_option maxRecDepth 20000 in
theorem g_166 {m : Nat} {F w B : Nat → Nat} {g : GS} {AN PD : List Nat} {P : List DS} {lt lf : Nat} {DL : List (Nat × DS)} {X9 : sA} {h : eH} (hv : okV B g) (hx : okX g) (hB : ∀ k, B k < 2 ^ 29) (hB1 : B 1 < 900000) (hn : w 2 = g.2.2.1.length) (hc : oC g P lt lf DL) {Q : Option Value → eH → Prop} (kk : ∀ AN9 PD9 DL9 lt9 lf9 h, oC (fnG (s5G g)) P lt9 lf9 DL9 → stars (oLg m F w lt9 lf9 AN9 PD9 DL9 X9 (fnG (s5G g))) h → Q none h) (hL : stars (oLg m F w lt lf AN PD DL X9 g) h) : EE mX15_oneTick 7 190 0 0 Q 166 [some (.ref m), none, none] [] h 0 0 := by
  obtain ⟨tp, an, D, ⟨fr, wv, hs⟩, M, ck⟩ := g
  have h6 : D.length ≤ 6 := hv.1.2.2.2.2.2
  have hn2 : w 2 = D.length := hn
  refine e_iconst 167 (v := (nI 0)) dX15_oneTick_166 rfl (by decide) ?_
  refine e_istore_n 168 (ls' := [some (.ref m), some (.int (nI 0)), none]) dX15_oneTick_167 rfl (by decide) rfl ?_
  have hL2 : stars [rmo m F (oW (upN w 4 AN.length) wv lt lf hs.length fr.length ck M.1) (decide (wv 5 ≠ 0)), ar6 (F 1) DL, lst rdve DL, iar (F 3) 300 AN, iar (F 5) 260 PD, rst (F 6) M.2.2.2.2.1 (M.1 20) (M.2.2.2.2.2 1) (M.2.2.2.2.2 2), rrw (F 12) 16 3 (M.2.1.map rqE), rrw (F 13) 32 5 (M.2.2.1.map rsE), X9, iar (F 21) 260 fr, iar (F 31) 64 (hs.map (·.1)), iar (F 32) 64 (hs.map (·.2))] h := stars_ixn hL 12 rfl [0, 3, 4, 1, 2, 5, 6, 7, 8, 9, 10, 11] (by decide) rfl
  refine l_lag (w := oW (upN w 4 AN.length) wv lt lf hs.length fr.length ck M.1) (D9 := DL.map (·.2)) (show w 2 ≤ 6 by omega) (fun i s (hi : i < w 2) hs9 => ?_) (fun DL9 h9 d9 l9 hL9 => ?_) _ 0 DL h (Nat.lt_succ_self _) (Nat.zero_le _) rfl hc.1 hL2
  · rw [hc.2.1] at hs9
    have hs2 : (D ++ P)[i]? = some s := hs9
    rw [List.getElem?_append_left (by omega)] at hs2
    have hm := List.mem_of_getElem? hs2
    have q := hv.1.2.1 s hm
    have q2 : s.1 20 ≤ B 1 := q.2
    exact ⟨q.1, hv.2 s hm, by omega⟩
  · have hL3 : stars [rmo m F (oW (upN w 4 AN.length) wv lt lf hs.length fr.length ck M.1) (decide (wv 5 ≠ 0)), iar (F 3) 300 AN, iar (F 5) 260 PD, ar6 (F 1) DL9, lst rdve DL9, rst (F 6) M.2.2.2.2.1 (M.1 20) (M.2.2.2.2.2 1) (M.2.2.2.2.2 2), rrw (F 12) 16 3 (M.2.1.map rqE), rrw (F 13) 32 5 (M.2.2.1.map rsE), X9, iar (F 21) 260 fr, iar (F 31) 64 (hs.map (·.1)), iar (F 32) 64 (hs.map (·.2))] h9 := stars_ixn hL9 12 rfl [0, 3, 4, 1, 2, 5, 6, 7, 8, 9, 10, 11] (by decide) rfl
    have d8 : DL9.map (·.2) = dvX (fun _ s => slD s) (w 2) (DL.map (·.2)) := d9
    refine g_end (g := s5G (tp, an, D, (fr, wv, hs), M, ck)) (ov_s5 hv) (x_s5 hx) hB hB1 (by show w 2 = (dvX (fun _ s => slD s) D.length D).length; rw [dvX_len]; exact hn2) ⟨l9, ?_, hc.2.2⟩ kk hL3
    rw [d8, hn2, hc.2.1]
    exact dvX_app _ (Nat.le_refl _)
