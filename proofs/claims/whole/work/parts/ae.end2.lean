/-! the end of the reference's tick, over states: somebody sends -/
section
variable {tp an fr : List Nat} {D : List DS} {wv u : Nat → Nat} {hs HS : List (Nat × Nat)} {M : MS} {ck : Nat}
theorem s8_eq (h0 : ¬ wv 1 = 0) (eu : (if wv 5 = 0 then bgB wv hs else wv) = u) (eh : adL wv hs = HS) (h1 : u 1 = wv 1) : s8G (wv 1) (s7G (adR wv hs) (wv 1) (s6G (tp, an, D, (fr, wv, hs), M, ck))) = (tp, an, soD u fr D.length D, (fr, ad2V u fr, HS), soM u fr M, ck) := by
  have e1 : adV wv fr hs = ad2V u fr := (if_neg h0).trans (by rw [eu])
  have e2 : adR wv hs = ad2R u := (if_neg h0).trans (by rw [eu])
  have e6 : s6G (tp, an, D, (fr, wv, hs), M, ck) = (tp, an, D, (fr, ad2V u fr, HS), M, ck) := by
    show (tp, an, D, (fr, adV wv fr hs, adL wv hs), M, ck) = _
    rw [e1, eh]
  have e7 : s7G (ad2R u) (wv 1) (tp, an, D, (fr, ad2V u fr, HS), M, ck) = (tp, an, soD u fr D.length D, (fr, ad2V u fr, HS), soM7 u fr M, ck) := by
    unfold s7G soD soM7
    rw [h1]
    split <;> rfl
  rw [e6, e2, e7]
  unfold s8G soM
  rw [h1]
  split <;> rfl
theorem so_ne (h : okX (tp, an, D, (fr, wv, hs), M, ck)) (h1 : u 1 = wv 1) : (soM u fr M).1 1 ≠ 0 → 0 < (soM u fr M).2.1.length := fun z => by
  rw [(so_8 (u := u) (fr := fr) (M := M)).2.1]
  by_cases o : u 1 = 1
  · exact h.2.1 (by rw [h.2.2.1 (show wv 1 = 1 by omega)]; decide)
  · have e : soM u fr M = soM7 u fr M := if_neg (fun y => o y.1)
    rw [e, (so_7 (u := u) (fr := fr) (M := M)).1 1 (by decide)] at z
    exact h.2.1 z
end
set_option maxRecDepth 20000 in
theorem g_nB {m : Nat} {F w B : Nat → Nat} {tp an fr AN PD : List Nat} {D P : List DS} {wv : Nat → Nat} {hs : List (Nat × Nat)} {M : MS} {ck lt lf : Nat} {DL : List (Nat × DS)} {X9 : sA} {h : eH} (hv : okV B (tp, an, D, (fr, wv, hs), M, ck)) (hx : okX (tp, an, D, (fr, wv, hs), M, ck)) (hB : ∀ k, B k < 2 ^ 29) (hB1 : B 1 < 900000) (hn : w 2 = D.length) (hc : oC (tp, an, D, (fr, wv, hs), M, ck) P lt lf DL) (h0 : ¬ wv 1 = 0) (h5 : ¬ wv 5 = 0) {Q : Option Value → eH → Prop} (kk : ∀ AN9 PD9 DL9 lt9 lf9 h, oC (fnG (tp, an, D, (fr, wv, hs), M, ck)) P lt9 lf9 DL9 → stars (oLg m F w lt9 lf9 AN9 PD9 DL9 X9 (fnG (tp, an, D, (fr, wv, hs), M, ck))) h → Q none h) (hL : stars (oLg m F w lt lf AN PD DL X9 (tp, an, D, (fr, wv, hs), M, ck)) h) : EE mX15_oneTick 7 190 0 0 Q 221 [some (.ref m), none, none] [] h 0 0 := by
  rw [fn_B (u := wv) (HS := hs) h0 (if_neg h5) ((if_neg h0).trans (if_neg h5)) rfl] at kk
  have h6 : D.length ≤ 6 := hv.1.2.2.2.2.2
  have hwk := hv.1.2.2.1
  have hok : ∀ i s, i < w 2 → (DL.map (·.2))[i]? = some s → okD s ∧ okE s ∧ s.1 20 < 1000000 := fun i s hi hs => by
    rw [hc.2.1] at hs
    have hs2 : (D ++ P)[i]? = some s := hs
    rw [List.getElem?_append_left (by omega)] at hs2
    have hm := List.mem_of_getElem? hs2
    have q := hv.1.2.1 s hm
    have q2 : s.1 20 ≤ B 1 := q.2
    exact ⟨q.1, hv.2 s hm, by omega⟩
  have v8 := ov_s8 (who := wv 1) (ov_s7 (did := adR wv hs) (who := wv 1) (ov_s6 hv))
  rw [s8_eq (u := wv) (HS := hs) h0 (if_neg h5) ((if_neg h0).trans (if_neg h5)) rfl] at v8
  have hl8 : (soD wv fr D.length D).length ≤ 6 := v8.1.2.2.2.2.2
  have eD : soD wv fr (w 2) (DL.map (·.2)) = soD wv fr D.length D ++ P := by
    rw [hn, hc.2.1]
    unfold soD
    split
    · exact dvX_app _ (Nat.le_refl _)
    · rfl
  have lD : (soD wv fr D.length D).length = D.length := by
    unfold soD
    split
    · exact dvX_len _
    · rfl
  have hok8 : ∀ i s, i < w 2 → (soD wv fr (w 2) (DL.map (·.2)))[i]? = some s → okD s ∧ okE s ∧ s.1 20 < 1000000 := fun i s hi hs => by
    rw [eD, List.getElem?_append_left (by omega)] at hs
    have hm := List.mem_of_getElem? hs
    have q := v8.1.2.1 s hm
    have q2 : s.1 20 ≤ B 1 := q.2
    exact ⟨q.1, v8.2 s hm, by omega⟩
  have b6 := hB 6
  have hbs : ∀ e ∈ hs, e.1 < 2 ^ 30 ∧ e.2 ≤ 340 := fun e he => ⟨by have q : e.1 ≤ B 6 + 2000 := (hwk.2.2.1 e he).1; omega, (hwk.2.2.1 e he).2⟩
  have hk8 : wv 8 < 2 ^ 30 := by have q : wv 8 ≤ B 6 := hwk.2.1.2.2.2.2.2.2.2.1; omega
  have h4w : wv 4 < 1000 := hwk.2.1.2.2.2.1
  have h5w : wv 5 ≤ 4 := hwk.2.1.2.2.2.2.1
  have hq20 : M.1 20 < 1000000 := by have q : M.1 20 ≤ B 1 := hv.1.2.2.2.1.1.2.2.2.2.2.2.2.2; omega
  obtain ⟨e4, e5⟩ := hc.2.2 h5
  have e4 : lt = wv 4 := e4
  have e5 : lf = wv 5 := e5
  subst e4
  subst e5
  have hL2 : stars [rmo m F (oW (upN w 4 AN.length) wv (wv 4) (wv 5) hs.length fr.length ck M.1) (decide (wv 5 ≠ 0)), iar (F 3) 300 AN, iar (F 5) 260 PD, ar6 (F 1) DL, lst rdve DL, rst (F 6) M.2.2.2.2.1 (M.1 20) (M.2.2.2.2.2 1) (M.2.2.2.2.2 2), rrw (F 12) 16 3 (M.2.1.map rqE), rrw (F 13) 32 5 (M.2.2.1.map rsE), X9, iar (F 21) 260 fr, iar (F 31) 64 (hs.map (·.1)), iar (F 32) 64 (hs.map (·.2))] h := hL
  rw [show decide (wv 5 ≠ 0) = true from decide_eq_true h5] at hL2
  refine g_endB (M := M) (B := bN (bN (bN B 0 1) 6 1) 1 1) (wv := wv) (fr := fr) (hs := hs) (AN := AN) (PD := PD) hwk.2.1.1 (fun k => ?_) hc.1 (by omega) hok h0 hx.2.2.2.2.1 (hx.2.2.2.1 h0) hq20 hwk.1 hok8 hx.2.2.2.2.2 h4w ⟨by omega, h5w⟩ (ok_tq1 v8.1.2.2.2.1) (fun z => so_ne hx rfl (by rw [z]; decide)) (fun z DL9 lt9 lf9 h9 c9 l9 d9 hL9 => ?_) (fun z AN9 PD9 DL9 lt9 lf9 h9 c9 l9 d9 hL9 => ?_) hL2
  · have := hB k
    have := hB 0
    have := hB 1
    show upN (upN (upN B 0 (B 0 + 1)) 6 (upN B 0 (B 0 + 1) 6 + 1)) 1 (upN (upN B 0 (B 0 + 1)) 6 (upN B 0 (B 0 + 1) 6 + 1) 1 + 1) k < 2 ^ 30
    simp only [upN]
    split
    · simp; omega
    · split
      · simp; omega
      · split <;> omega
  · rw [if_neg z, if_neg z] at kk
    exact kk AN PD DL9 lt9 lf9 h9 ⟨l9, d9.trans eD, c9⟩ hL9
  · rw [if_pos z, if_pos z] at kk
    refine kk AN9 PD9 DL9 lt9 lf9 h9 ⟨l9, ?_, c9⟩ hL9
    rw [d9, eD, hn, dvX_app _ (Nat.le_of_eq lD.symm)]
    show _ = sdD (wv 1) (soD wv fr D.length D) ++ P
    rw [sdD, lD]
set_option maxRecDepth 20000 in
theorem g_nC {m : Nat} {F w B : Nat → Nat} {tp an fr AN PD : List Nat} {D P : List DS} {wv : Nat → Nat} {hs : List (Nat × Nat)} {M : MS} {ck lt lf : Nat} {DL : List (Nat × DS)} {X9 : sA} {h : eH} (hv : okV B (tp, an, D, (fr, wv, hs), M, ck)) (hx : okX (tp, an, D, (fr, wv, hs), M, ck)) (hB : ∀ k, B k < 2 ^ 29) (hB1 : B 1 < 900000) (hn : w 2 = D.length) (hc : oC (tp, an, D, (fr, wv, hs), M, ck) P lt lf DL) (h0 : ¬ wv 1 = 0) (h5 : wv 5 = 0) {Q : Option Value → eH → Prop} (kk : ∀ AN9 PD9 DL9 lt9 lf9 h, oC (fnG (tp, an, D, (fr, wv, hs), M, ck)) P lt9 lf9 DL9 → stars (oLg m F w lt9 lf9 AN9 PD9 DL9 X9 (fnG (tp, an, D, (fr, wv, hs), M, ck))) h → Q none h) (hL : stars (oLg m F w lt lf AN PD DL X9 (tp, an, D, (fr, wv, hs), M, ck)) h) : EE mX15_oneTick 7 190 0 0 Q 221 [some (.ref m), none, none] [] h 0 0 := by
  rw [fn_B (u := (bgB wv hs)) (HS := (tkL hs (wv 8))) h0 (if_pos h5) ((if_neg h0).trans (if_pos h5)) rfl] at kk
  have h6 : D.length ≤ 6 := hv.1.2.2.2.2.2
  have hwk := hv.1.2.2.1
  have hok : ∀ i s, i < w 2 → (DL.map (·.2))[i]? = some s → okD s ∧ okE s ∧ s.1 20 < 1000000 := fun i s hi hs => by
    rw [hc.2.1] at hs
    have hs2 : (D ++ P)[i]? = some s := hs
    rw [List.getElem?_append_left (by omega)] at hs2
    have hm := List.mem_of_getElem? hs2
    have q := hv.1.2.1 s hm
    have q2 : s.1 20 ≤ B 1 := q.2
    exact ⟨q.1, hv.2 s hm, by omega⟩
  have v8 := ov_s8 (who := wv 1) (ov_s7 (did := adR wv hs) (who := wv 1) (ov_s6 hv))
  rw [s8_eq (u := (bgB wv hs)) (HS := (tkL hs (wv 8))) h0 (if_pos h5) ((if_neg h0).trans (if_pos h5)) rfl] at v8
  have hl8 : (soD (bgB wv hs) fr D.length D).length ≤ 6 := v8.1.2.2.2.2.2
  have eD : soD (bgB wv hs) fr (w 2) (DL.map (·.2)) = soD (bgB wv hs) fr D.length D ++ P := by
    rw [hn, hc.2.1]
    unfold soD
    split
    · exact dvX_app _ (Nat.le_refl _)
    · rfl
  have lD : (soD (bgB wv hs) fr D.length D).length = D.length := by
    unfold soD
    split
    · exact dvX_len _
    · rfl
  have hok8 : ∀ i s, i < w 2 → (soD (bgB wv hs) fr (w 2) (DL.map (·.2)))[i]? = some s → okD s ∧ okE s ∧ s.1 20 < 1000000 := fun i s hi hs => by
    rw [eD, List.getElem?_append_left (by omega)] at hs
    have hm := List.mem_of_getElem? hs
    have q := v8.1.2.1 s hm
    have q2 : s.1 20 ≤ B 1 := q.2
    exact ⟨q.1, v8.2 s hm, by omega⟩
  have b6 := hB 6
  have hbs : ∀ e ∈ hs, e.1 < 2 ^ 30 ∧ e.2 ≤ 340 := fun e he => ⟨by have q : e.1 ≤ B 6 + 2000 := (hwk.2.2.1 e he).1; omega, (hwk.2.2.1 e he).2⟩
  have hk8 : wv 8 < 2 ^ 30 := by have q : wv 8 ≤ B 6 := hwk.2.1.2.2.2.2.2.2.2.1; omega
  have h4w : wv 4 < 1000 := hwk.2.1.2.2.2.1
  have h5w : wv 5 ≤ 4 := hwk.2.1.2.2.2.2.1
  have hq20 : M.1 20 < 1000000 := by have q : M.1 20 ≤ B 1 := hv.1.2.2.2.1.1.2.2.2.2.2.2.2.2; omega
  have e4 := 0
  have hL2 : stars [rmo m F (oW (upN w 4 AN.length) wv lt lf hs.length fr.length ck M.1) (decide (wv 5 ≠ 0)), iar (F 3) 300 AN, iar (F 5) 260 PD, ar6 (F 1) DL, lst rdve DL, rst (F 6) M.2.2.2.2.1 (M.1 20) (M.2.2.2.2.2 1) (M.2.2.2.2.2 2), rrw (F 12) 16 3 (M.2.1.map rqE), rrw (F 13) 32 5 (M.2.2.1.map rsE), X9, iar (F 21) 260 fr, iar (F 31) 64 (hs.map (·.1)), iar (F 32) 64 (hs.map (·.2))] h := hL
  rw [show decide (wv 5 ≠ 0) = false from decide_eq_false (fun z => z h5)] at hL2
  refine g_endC (M := M) (B := bN (bN (bN B 0 1) 6 1) 1 1) (wv := wv) (fr := fr) (hs := hs) (AN := AN) (PD := PD) (lt := lt) (lf := lf) hwk.2.1.1 (fun k => ?_) hc.1 (by omega) hok h0 hx.2.2.2.2.1 (hx.2.2.2.1 h0) hq20 hwk.1 hok8 hwk.2.2.2 hbs hk8 (ok_tq1 v8.1.2.2.2.1) (fun z => so_ne hx rfl (by rw [z]; decide)) (fun z DL9 lt9 lf9 h9 c9 l9 d9 hL9 => ?_) (fun z AN9 PD9 DL9 lt9 lf9 h9 c9 l9 d9 hL9 => ?_) hL2
  · have := hB k
    have := hB 0
    have := hB 1
    show upN (upN (upN B 0 (B 0 + 1)) 6 (upN B 0 (B 0 + 1) 6 + 1)) 1 (upN (upN B 0 (B 0 + 1)) 6 (upN B 0 (B 0 + 1) 6 + 1) 1 + 1) k < 2 ^ 30
    simp only [upN]
    split
    · simp; omega
    · split
      · simp; omega
      · split <;> omega
  · rw [if_neg z, if_neg z] at kk
    exact kk AN PD DL9 lt9 lf9 h9 ⟨l9, d9.trans eD, c9⟩ hL9
  · rw [if_pos z, if_pos z] at kk
    refine kk AN9 PD9 DL9 lt9 lf9 h9 ⟨l9, ?_, c9⟩ hL9
    rw [d9, eD, hn, dvX_app _ (Nat.le_of_eq lD.symm)]
    show _ = sdD (wv 1) (soD (bgB wv hs) fr D.length D) ++ P
    rw [sdD, lD]
