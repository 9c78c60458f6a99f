/-! the end of the reference's tick, over states -/
abbrev oLg (m : Nat) (F w : Nat → Nat) (lt lf : Nat) (AN PD : List Nat) (DL : List (Nat × DS)) (X9 : sA) (g : GS) : List sA := [rmo m F (oW (upN w 4 AN.length) g.2.2.2.1.2.1 lt lf g.2.2.2.1.2.2.length g.2.2.2.1.1.length g.2.2.2.2.2 g.2.2.2.2.1.1) (decide (g.2.2.2.1.2.1 5 ≠ 0)), iar (F 3) 300 AN, iar (F 5) 260 PD, ar6 (F 1) DL, lst rdve DL, rst (F 6) g.2.2.2.2.1.2.2.2.2.1 (g.2.2.2.2.1.1 20) (g.2.2.2.2.1.2.2.2.2.2 1) (g.2.2.2.2.1.2.2.2.2.2 2), rrw (F 12) 16 3 (g.2.2.2.2.1.2.1.map rqE), rrw (F 13) 32 5 (g.2.2.2.2.1.2.2.1.map rsE), X9, iar (F 21) 260 g.2.2.2.1.1, iar (F 31) 64 (g.2.2.2.1.2.2.map (·.1)), iar (F 32) 64 (g.2.2.2.1.2.2.map (·.2))]
/-- how the parts fit a state -/
def oC (g : GS) (P : List DS) (lt lf : Nat) (DL : List (Nat × DS)) : Prop := DL.length = 6 ∧ DL.map (·.2) = g.2.2.1 ++ P ∧ (g.2.2.2.1.2.1 5 ≠ 0 → lt = g.2.2.2.1.2.1 4 ∧ lf = g.2.2.2.1.2.1 5)
theorem ok_tq1 {B : Nat → Nat} {M : MS} (h : okMS B M) : okMS (bN B 1 1) (tqM M) := by
  obtain ⟨⟨h1, h2, h3, h4, h5, h9, h13, h14, h20⟩, hr⟩ := okMS_m (B' := bN B 1 1) bN_le h
  refine ⟨⟨h1, h2, h3, h4, h5, h9, h13, h14, ?_⟩, hr⟩
  show M.1 20 + 1 ≤ B 1 + 1
  exact Nat.add_le_add_right h.1.2.2.2.2.2.2.2.2 1
theorem g_nA {m : Nat} {F w B : Nat → Nat} {tp an fr AN PD : List Nat} {D P : List DS} {wv : Nat → Nat} {hs : List (Nat × Nat)} {M : MS} {ck lt lf : Nat} {DL : List (Nat × DS)} {X9 : sA} {h : eH} (hv : okV B (tp, an, D, (fr, wv, hs), M, ck)) (hx : okX (tp, an, D, (fr, wv, hs), M, ck)) (hB : ∀ k, B k < 2 ^ 29) (hB1 : B 1 < 900000) (hn : w 2 = D.length) (hc : oC (tp, an, D, (fr, wv, hs), M, ck) P lt lf DL) (h0 : wv 1 = 0) {Q : Option Value → eH → Prop} (kk : ∀ AN9 PD9 DL9 lt9 lf9 h, oC (fnG (tp, an, D, (fr, wv, hs), M, ck)) P lt9 lf9 DL9 → stars (oLg m F w lt9 lf9 AN9 PD9 DL9 X9 (fnG (tp, an, D, (fr, wv, hs), M, ck))) h → Q none h) (hL : stars (oLg m F w lt lf AN PD DL X9 (tp, an, D, (fr, wv, hs), M, ck)) h) : EE mX15_oneTick 7 190 0 0 Q 221 [some (.ref m), none, none] [] h 0 0 := by
  rw [fn_A h0] at kk
  have h6 : D.length ≤ 6 := hv.1.2.2.2.2.2
  have hok : ∀ i s, i < w 2 → (DL.map (·.2))[i]? = some s → okD s ∧ okE s ∧ s.1 20 < 1000000 := fun i s hi hs => by
    rw [hc.2.1] at hs
    have hs2 : (D ++ P)[i]? = some s := hs
    rw [List.getElem?_append_left (by omega)] at hs2
    have hm := List.mem_of_getElem? hs2
    have q := hv.1.2.1 s hm
    have q2 : s.1 20 ≤ B 1 := q.2
    exact ⟨q.1, hv.2 s hm, by omega⟩
  refine g_endA (M := M) (B := bN B 1 1) (wv := wv) (fr := fr) (hs := hs) (AN := AN) (PD := PD) (lt := lt) (lf := lf) (by omega) (fun k => ?_) hc.1 (by omega) hok h0 (ok_tq1 hv.1.2.2.2.1) (fun z => hx.2.1 (by rw [z]; decide)) (fun AN9 PD9 DL9 h9 l9 d9 hL9 => ?_) hL
  · show upN B 1 (B 1 + 1) k < 2 ^ 30
    have := hB k
    unfold upN
    split <;> omega
  · refine kk AN9 PD9 DL9 lt lf h9 ⟨l9, ?_, hc.2.2⟩ hL9
    rw [d9, hn, hc.2.1]
    exact dvX_app _ (Nat.le_refl _)
