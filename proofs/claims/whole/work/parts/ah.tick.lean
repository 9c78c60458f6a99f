/-! the reference: a tick from its start -/
theorem bN_sl {B : Nat → Nat} {j n d c : Nat} (h : ∀ k, B k + (n + d) < c) (k : Nat) : bN B j n k + d < c := by
  show upN B j (B j + n) k + d < c
  have h1 := h k
  have h2 := h j
  unfold upN
  split <;> omega
theorem bg_2 {g : GS} {lt lf : Nat} (hc : g.2.2.2.1.2.1 5 ≠ 0 → lt = g.2.2.2.1.2.1 4 ∧ lf = g.2.2.2.1.2.1 5) : (bgG g).2.2.2.2.1.2.2 = g.2.2.2.2.1.2.2 ∧ (bgG g).2.2.2.2.1.1 20 = g.2.2.2.2.1.1 20 ∧ (bgG g).2.2.2.1.2.2 = g.2.2.2.1.2.2 ∧ (bgG g).2.2.2.2.2 = g.2.2.2.2.2 ∧ ((bgG g).2.2.2.1.2.1 5 ≠ 0 → lt = (bgG g).2.2.2.1.2.1 4 ∧ lf = (bgG g).2.2.2.1.2.1 5) := by
  unfold bgG
  split
  · exact ⟨rfl, rfl, rfl, rfl, fun z => absurd rfl z⟩
  · unfold bgD
    split
    · exact ⟨rfl, rfl, rfl, rfl, hc⟩
    · exact ⟨rfl, rfl, rfl, rfl, fun z => absurd rfl z⟩
theorem fn_sc {g : GS} : (fnG g).2.2.2.2.1.2.2.2.1 = g.2.2.2.2.1.2.2.2.1 ∧ (fnG g).1 = g.1 ∧ (fnG g).2.1 = g.2.1 := by
  obtain ⟨tp, an, D, ⟨fr, wv, hs⟩, M, ck⟩ := g
  by_cases h0 : wv 1 = 0
  · rw [fn_A h0]
    exact ⟨x_si.1, rfl, rfl⟩
  · have kk : ∀ u HS, (if wv 5 = 0 then bgB wv hs else wv) = u → adL wv hs = HS → u 1 = wv 1 → (fnG (tp, an, D, (fr, wv, hs), M, ck)).2.2.2.2.1.2.2.2.1 = M.2.2.2.1 ∧ (fnG (tp, an, D, (fr, wv, hs), M, ck)).1 = tp ∧ (fnG (tp, an, D, (fr, wv, hs), M, ck)).2.1 = an := fun u HS eu eh h1 => by
      rw [fn_B h0 eu eh h1]
      have s4 := (so_8 (u := u) (fr := fr) (M := M)).2.2.2
      have hx : xM (soM u fr M) (if ad2R u = 0 then siM (wv 1) (soM u fr M) else soM u fr M) := by
        split
        · exact x_si
        · exact xM_r
      exact ⟨hx.1.trans s4, rfl, rfl⟩
    by_cases h5 : wv 5 = 0
    · exact kk _ _ (if_pos h5) ((if_neg h0).trans (if_pos h5)) rfl
    · exact kk _ _ (if_neg h5) ((if_neg h0).trans (if_neg h5)) rfl
theorem st_sc {B : Nat → Nat} {g : GS} (hx : okX g) (hv : okV B g) (h9 : B 10 + 30000 ≤ B 9) : (stG g).2.2.2.2.1.2.2.2.1 = (s2G (s1G g)).2.2.2.2.1.2.2.2.1 ∧ (stG g).1 = g.1 ∧ (stG g).2.1 = g.2.1 := by
  rw [stG_fn]
  obtain ⟨a, b, c⟩ := fn_sc (g := s5G (s4G (s3G (s2G (s1G g)))))
  have v2 := ov_s2 (ov_s1 hv) h9
  have x2 := (x_s2 (x_s1 hx) (ov_s1 hv).1.2.2.2.1 (Nat.le_trans (Nat.add_le_add_right (ov_s1 hv).1.2.2.2.2.1 _) h9)).1
  obtain ⟨x3, e3⟩ := x_s3 x2 v2.1.2.2.2.1 v2.2
  have e4 := (x_s4 x3).2
  have t1 : (s1G g).1 = g.1 ∧ (s1G g).2.1 = g.2.1 := by
    unfold s1G
    split <;> exact ⟨rfl, rfl⟩
  have t3 : ∀ g9 : GS, (s3G g9).1 = g9.1 ∧ (s3G g9).2.1 = g9.2.1 := fun g9 => by
    unfold s3G
    split
    · unfold bgG
      split
      · exact ⟨rfl, rfl⟩
      · unfold bgD
        split <;> exact ⟨rfl, rfl⟩
    · exact ⟨rfl, rfl⟩
  refine ⟨a.trans (e4.trans e3), b.trans ?_, c.trans ?_⟩
  · exact (t3 _).1.trans t1.1
  · exact (t3 _).2.trans t1.2
set_option maxRecDepth 20000 in
theorem g_79 {m : Nat} {F w B : Nat → Nat} {g : GS} {AN PD : List Nat} {P : List DS} {lt lf : Nat} {DL : List (Nat × DS)} {X9 : sA} {h : eH} (hv : okV B g) (hx : okX g) (hB : ∀ k, B k + 2 < 2 ^ 29) (hB1 : B 1 < 900000) (hn : w 2 = g.2.2.1.length) (hc : oC g P lt lf DL) {Q : Option Value → eH → Prop} (kk : ∀ AN9 PD9 DL9 lt9 lf9 h, oC (fnG (s5G (s4G g))) P lt9 lf9 DL9 → stars (oLg m F w lt9 lf9 AN9 PD9 DL9 X9 (fnG (s5G (s4G g)))) h → Q none h) (hL : stars (oLg m F w lt lf AN PD DL X9 g) h) : EE mX15_oneTick 7 190 0 0 Q 79 [some (.ref m), none, none] [] h 0 0 := by
  obtain ⟨tp, an, D, ⟨fr, wv, hs⟩, ⟨v, RQ, RS, SC, er, mb⟩, ck⟩ := g
  have hM : okMS B (v, RQ, RS, SC, er, mb) := hv.1.2.2.2.1
  have hW : okW B (fr, wv, hs) := hv.1.2.2.1
  have hn2 : w 2 = D.length := hn
  have v1 : v 1 ≤ 2 := hM.1.1
  have v2 : v 2 ≤ B 2 := hM.1.2.1
  have v3 : v 3 ≤ 9 := hM.1.2.2.1
  have b2 := hB 2
  have b3 := hB 3
  have hB9 : ∀ k, bN (bN B 2 1) 7 1 k < 2 ^ 29 := bN_sl (d := 0) (bN_sl hB)
  have kk2 : ∀ h9, stars (oLg m F w lt lf AN PD DL X9 (s4G (tp, an, D, (fr, wv, hs), (v, RQ, RS, SC, er, mb), ck))) h9 → EE mX15_oneTick 7 190 0 0 Q 166 [some (.ref m), none, none] [] h9 0 0 := fun h9 hL9 => g_166 (g := s4G (tp, an, D, (fr, wv, hs), (v, RQ, RS, SC, er, mb), ck)) (ov_s4 hv) (x_s4 hx).1 hB9 hB1 hn2 hc kk hL9
  have hL2 : stars [rmo m F (oW (upN w 4 AN.length) wv lt lf hs.length fr.length ck v) (decide (wv 5 ≠ 0)), rst (F 6) er (v 20) (mb 1) (mb 2), rrw (F 12) 16 3 (RQ.map rqE), rrw (F 13) 32 5 (RS.map rsE), iar (F 3) 300 AN, iar (F 5) 260 PD, ar6 (F 1) DL, lst rdve DL, X9, iar (F 21) 260 fr, iar (F 31) 64 (hs.map (·.1)), iar (F 32) 64 (hs.map (·.2))] h := stars_ixn hL 12 rfl [0, 5, 6, 7, 1, 2, 3, 4, 8, 9, 10, 11] (by decide) rfl
  by_cases z : v 1 = 2
  · have hq : 0 < RQ.length := hx.2.1 (show v 1 ≠ 0 by omega)
    match RQ, hM, hL2, kk2, hq with
    | [], _, _, _, hq => exact absurd hq (Nat.lt_irrefl 0)
    | (q, nu, ad, at9) :: R, hM, hL2, kk2, _ =>
      obtain ⟨q1, q2, q3, q4, q5⟩ := hM.2.1 _ (List.mem_cons_self ..)
      have q4' : ad < 248 := q4
      have q5' : at9 ≤ B 3 := q5
      exact g_wt (B := B) (SC := SC) hM.2.2.2.2.2.2.1 (by omega) (by omega) v1 (by omega) hM.1.2.2.2.1 hM.1.2.2.2.2.1 (by omega) hW.2.1.1 hM.2.2.2.2.2.2.2.2 (fun h9 hL9 => kk2 h9 (stars_ixn hL9 12 rfl [0, 4, 5, 6, 7, 1, 2, 3, 8, 9, 10, 11] (by decide) rfl)) hL2
  · exact g_wt0 (B := B) (SC := SC) v1 z (fun h9 hL9 => kk2 h9 (stars_ixn hL9 12 rfl [0, 4, 5, 6, 7, 1, 2, 3, 8, 9, 10, 11] (by decide) rfl)) hL2
set_option maxRecDepth 20000 in
theorem g_59 {m : Nat} {F w B : Nat → Nat} {g : GS} {AN PD : List Nat} {P : List DS} {lt lf : Nat} {DL : List (Nat × DS)} {X9 : sA} {h : eH} (hv : okV B g) (hx : okX g) (hB : ∀ k, B k + 4 < 2 ^ 29) (hB1 : B 1 < 900000) (hn : w 2 = g.2.2.1.length) (hc : oC g P lt lf DL) {Q : Option Value → eH → Prop} (kk : ∀ AN9 PD9 DL9 lt9 lf9 h, oC (fnG (s5G (s4G (s3G g)))) P lt9 lf9 DL9 → stars (oLg m F w lt9 lf9 AN9 PD9 DL9 X9 (fnG (s5G (s4G (s3G g))))) h → Q none h) (hL : stars (oLg m F w lt lf AN PD DL X9 g) h) : EE mX15_oneTick 7 190 0 0 Q 59 [some (.ref m), none, none] [] h 0 0 := by
  obtain ⟨tp, an, D, ⟨fr, wv, hs⟩, M, ck⟩ := g
  have hW : okW B (fr, wv, hs) := hv.1.2.2.1
  have hn2 : w 2 = D.length := hn
  have w1 : wv 1 < 8 := hW.2.1.1
  have w2 : wv 2 ≤ B 0 := hW.2.1.2.1
  have b0 := hB 0
  have h6 : D.length ≤ 6 := hv.1.2.2.2.2.2
  refine e_aload_n 60 dX15_oneTick_59 rfl rfl ?_
  refine e_get 63 (v := .int (nI (wv 1))) dX15_oneTick_60 rfl fl_X15_340_13 (stars_at _ 0 hL rfl) rfl ?_
  refine e_if_ne 79 66 dX15_oneTick_63 rfl rfl (fun c63 => ?_) (fun c63 => ?_)
  · have k63 := j_ne0_t (a := wv 1) (by omega) c63
    have e3 : s3G (tp, an, D, (fr, wv, hs), M, ck) = (tp, an, D, (fr, wv, hs), M, ck) := if_neg (fun y => k63 y.1)
    rw [e3] at kk
    exact g_79 hv hx (fun k => by have := hB k; omega) hB1 hn hc kk hL
  · have k63 := j_ne0_f (a := wv 1) (by omega) c63
    refine e_aload_n 67 dX15_oneTick_66 rfl rfl ?_
    refine e_get 70 (v := .int (nI (wv 2))) dX15_oneTick_67 rfl fl_X15_54_13 (stars_at _ 0 hL rfl) rfl ?_
    refine e_bipush 72 (v := nI 14) dX15_oneTick_70 rfl (by decide) ?_
    refine e_icmp_lt 79 75 dX15_oneTick_72 rfl rfl (fun c72 => ?_) (fun c72 => ?_)
    · have k72 := j_lt_t (a := wv 2) (b := 14) (by omega) (by decide) c72
      have e3 : s3G (tp, an, D, (fr, wv, hs), M, ck) = (tp, an, D, (fr, wv, hs), M, ck) := if_neg (fun y => absurd (show 14 ≤ wv 2 from y.2) (by omega))
      rw [e3] at kk
      exact g_79 hv hx (fun k => by have := hB k; omega) hB1 hn hc kk hL
    · have k72 := j_lt_f (a := wv 2) (b := 14) (by omega) (by decide) c72
      have e3 : s3G (tp, an, D, (fr, wv, hs), M, ck) = bgG (tp, an, D, (fr, wv, hs), M, ck) := if_pos ⟨k63, k72⟩
      have ov := ov_s3 hv
      have ox := (x_s3 hx hv.1.2.2.2.1 hv.2).1
      rw [e3] at kk ov ox
      refine e_aload_n 76 dX15_oneTick_75 rfl rfl ?_
      refine p_callV 79 hL [0, 9, 3, 4, 6, 1, 2, 5, 7, 8, 10, 11] 12 rfl (by decide) (L1 := [rmo m F (oW (upN w 4 AN.length) wv lt lf hs.length fr.length ck M.1) (decide (wv 5 ≠ 0)), iar (F 21) 260 fr, ar6 (F 1) DL, lst rdve DL, rrw (F 12) 16 3 (M.2.1.map rqE)]) (L2 := [iar (F 3) 300 AN, iar (F 5) 260 PD, rst (F 6) M.2.2.2.2.1 (M.1 20) (M.2.2.2.2.2 1) (M.2.2.2.2.2 2), rrw (F 13) 32 5 (M.2.2.1.map rsE), X9, iar (F 31) 64 (hs.map (·.1)), iar (F 32) 64 (hs.map (·.2))]) rfl isO_pt 0 rfl dX15_oneTick_76 rfl cv_X15_409 (K_begins (tp := tp) (an := an) (D := D) (P := P) (w := upN w 4 AN.length) (B := B) hc.2.1 hc.1 hn2 h6 (fun s hs => ⟨(hv.1.2.1 s hs).1, hv.2 s hs, by have := (hv.1.2.1 s hs).2; omega⟩) hv.1.2.2.2.1) rfl rfl (Nat.le_of_ble_eq_true rfl) ⟨by decide, by omega, by omega⟩ (fun r1 L1 h9 q hL => ?_)
      obtain ⟨rfl, DL9, l9, d9, rfl⟩ := q
      obtain ⟨b1, b2, b3, b4, b5⟩ := bg_2 hc.2.2
      have hl9 : (bgG (tp, an, D, (fr, wv, hs), M, ck)).2.2.1.length = D.length := by
        have y1 := congrArg List.length d9
        have y2 := congrArg List.length hc.2.1
        rw [List.length_map, List.length_append, l9] at y1
        rw [List.length_map, List.length_append, hc.1] at y2
        have y3 : 6 = D.length + P.length := y2
        omega
      have hL9 : stars (oLg m F w lt lf AN PD DL9 X9 (bgG (tp, an, D, (fr, wv, hs), M, ck))) h9 := by
        unfold oLg
        rw [b1, b2, b3, b4]
        exact stars_ixn hL 12 rfl [0, 5, 6, 2, 3, 7, 4, 8, 9, 1, 10, 11] (by decide) rfl
      exact g_79 (g := bgG (tp, an, D, (fr, wv, hs), M, ck)) ov ox (bN_sl (d := 2) (bN_sl hB)) hB1 (hn2.trans hl9.symm) ⟨l9, d9, b5⟩ kk hL9
set_option maxRecDepth 20000 in
theorem g_35 {m : Nat} {F w B : Nat → Nat} {g : GS} {AN PD : List Nat} {P : List DS} {lt lf : Nat} {DL : List (Nat × DS)} {h : eH} (hv : okV B g) (hx : okX g) (hB : ∀ k, B k + 12 < 2 ^ 29) (hB1 : B 1 < 900000) (h9 : B 10 + 30000 ≤ B 9) (hn : w 2 = g.2.2.1.length) (hc : oC g P lt lf DL) {Q : Option Value → eH → Prop} (kk : ∀ AN9 PD9 DL9 lt9 lf9 h, oC (fnG (s5G (s4G (s3G (s2G g))))) P lt9 lf9 DL9 → stars (oLg m F w lt9 lf9 AN9 PD9 DL9 (rrw (F 14) 8 4 ((s2G g).2.2.2.2.1.2.2.2.1.map scE)) (fnG (s5G (s4G (s3G (s2G g)))))) h → Q none h) (hL : stars (oLg m F w lt lf AN PD DL (rrw (F 14) 8 4 (g.2.2.2.2.1.2.2.2.1.map scE)) g) h) : EE mX15_oneTick 7 190 0 0 Q 35 [some (.ref m), none, none] [] h 0 0 := by
  obtain ⟨tp, an, D, ⟨fr, wv, hs⟩, M, ck⟩ := g
  have hn2 : w 2 = D.length := hn
  have c1 : ck ≤ B 10 := hv.1.2.2.2.2.1
  have b10 := hB 10
  have hc9 : ck + 30000 ≤ B 9 := by omega
  have hM : okMS B M := hv.1.2.2.2.1
  refine e_iconst 36 (v := (nI 0)) dX15_oneTick_35 rfl (by decide) ?_
  refine e_istore_n 37 (ls' := [some (.ref m), some (.int (nI 0)), none]) dX15_oneTick_36 rfl (by decide) rfl ?_
  have hL2 : stars [pt m (.inr (13, moF F (upN (upN (oW (upN w 4 AN.length) wv lt lf hs.length fr.length ck M.1) 18 ck) 15 ((scS ck 0 M).1 9)) (decide (wv 5 ≠ 0)))), rrw (F 12) 16 3 (M.2.1.map rqE), rrw (F 14) 8 4 (M.2.2.2.1.map scE), iar (F 3) 300 AN, iar (F 5) 260 PD, ar6 (F 1) DL, lst rdve DL, rst (F 6) M.2.2.2.2.1 (M.1 20) (M.2.2.2.2.2 1) (M.2.2.2.2.2 2), rrw (F 13) 32 5 (M.2.2.1.map rsE), iar (F 21) 260 fr, iar (F 31) 64 (hs.map (·.1)), iar (F 32) 64 (hs.map (·.2))] h := stars_ixn hL 12 rfl [0, 6, 8, 1, 2, 3, 4, 5, 7, 9, 10, 11] (by decide) rfl
  refine l_sc (w := oW (upN w 4 AN.length) wv lt lf hs.length fr.length ck M.1) (B := B) hM (fun k => by have := hB k; omega) (by omega) hc9 hx.1 (fun h8 hL8 => ?_) _ 0 h (Nat.lt_succ_self _) (Nat.zero_le _) hL2
  obtain ⟨e1, e2, e3⟩ := scS_1 (c := ck) (M := M) M.2.2.2.1.length
  have e20 : (scS ck M.2.2.2.1.length M).1 20 = M.1 20 := by rw [e1]; rfl
  have e11 : moF F (upN (upN (oW (upN w 4 AN.length) wv lt lf hs.length fr.length ck M.1) 18 ck) 15 ((scS ck M.2.2.2.1.length M).1 9)) (decide (wv 5 ≠ 0)) = moF F (oW (upN w 4 AN.length) wv lt lf hs.length fr.length ck (scS ck M.2.2.2.1.length M).1) (decide (wv 5 ≠ 0)) := by
    generalize (scS ck M.2.2.2.1.length M).1 = v9 at e1 ⊢
    rw [e1]
    rfl
  rw [e11] at hL8
  have hL9 : stars (oLg m F w lt lf AN PD DL (rrw (F 14) 8 4 ((s2G (tp, an, D, (fr, wv, hs), M, ck)).2.2.2.2.1.2.2.2.1.map scE)) (s2G (tp, an, D, (fr, wv, hs), M, ck))) h8 := by
    show stars [rmo m F (oW (upN w 4 AN.length) wv lt lf hs.length fr.length ck (scS ck M.2.2.2.1.length M).1) (decide (wv 5 ≠ 0)), iar (F 3) 300 AN, iar (F 5) 260 PD, ar6 (F 1) DL, lst rdve DL, rst (F 6) (scS ck M.2.2.2.1.length M).2.2.2.2.1 ((scS ck M.2.2.2.1.length M).1 20) ((scS ck M.2.2.2.1.length M).2.2.2.2.2 1) ((scS ck M.2.2.2.1.length M).2.2.2.2.2 2), rrw (F 12) 16 3 ((scS ck M.2.2.2.1.length M).2.1.map rqE), rrw (F 13) 32 5 ((scS ck M.2.2.2.1.length M).2.2.1.map rsE), rrw (F 14) 8 4 ((scS ck M.2.2.2.1.length M).2.2.2.1.map scE), iar (F 21) 260 fr, iar (F 31) 64 (hs.map (·.1)), iar (F 32) 64 (hs.map (·.2))] h8
    rw [e20, e2, e3]
    exact stars_ixn hL8 12 rfl [0, 3, 4, 5, 6, 7, 1, 8, 2, 9, 10, 11] (by decide) rfl
  exact g_59 (g := s2G (tp, an, D, (fr, wv, hs), M, ck)) (ov_s2 hv h9) (x_s2 hx hM hc9).1 (bN_sl (d := 4) hB) hB1 hn2 hc kk hL9
set_option maxRecDepth 20000 in
theorem g_0 {m : Nat} {F w B : Nat → Nat} {g : GS} {AN PD : List Nat} {P : List DS} {lt lf : Nat} {DL : List (Nat × DS)} {h : eH} (hv : okV B g) (hx : okX g) (hB : ∀ k, B k + 12 < 2 ^ 29) (hB1 : B 1 < 900000) (h9 : B 10 + 30000 ≤ B 9) (hn : w 2 = g.2.2.1.length) (hc : oC g P lt lf DL) {Q : Option Value → eH → Prop} (kk : ∀ AN9 PD9 DL9 lt9 lf9 h, oC (stG g) P lt9 lf9 DL9 → stars (oLg m F w lt9 lf9 AN9 PD9 DL9 (rrw (F 14) 8 4 ((s2G (s1G g)).2.2.2.2.1.2.2.2.1.map scE)) (stG g)) h → Q none h) (hL : stars (oLg m F w lt lf AN PD DL (rrw (F 14) 8 4 (g.2.2.2.2.1.2.2.2.1.map scE)) g) h) : EE mX15_oneTick 7 190 0 0 Q 0 [some (.ref m), none, none] [] h 0 0 := by
  rw [stG_fn] at kk
  obtain ⟨tp, an, D, ⟨fr, wv, hs⟩, M, ck⟩ := g
  have hn2 : w 2 = D.length := hn
  have c1 : ck ≤ B 10 := hv.1.2.2.2.2.1
  have b10 := hB 10
  have h6 : D.length ≤ 6 := hv.1.2.2.2.2.2
  refine e_aload_n 1 dX15_oneTick_0 rfl rfl ?_
  refine e_get 4 (v := .int (nI ck)) dX15_oneTick_1 rfl fl_X15_362_13 (stars_at _ 0 hL rfl) rfl ?_
  refine e_bipush 6 (v := nI 20) dX15_oneTick_4 rfl (by decide) ?_
  refine e_irem 7 (v := nI (ck % 20)) dX15_oneTick_6 rfl (by decide) (pk_rem (by omega) (by decide) (by decide)) ?_
  refine e_if_ne 35 10 dX15_oneTick_7 rfl rfl (fun c7 => ?_) (fun c7 => ?_)
  · have k7 := j_ne0_t (a := ck % 20) (by omega) c7
    have e1 : s1G (tp, an, D, (fr, wv, hs), M, ck) = (tp, an, D, (fr, wv, hs), M, ck) := if_neg (show ¬ ck % 20 = 0 from k7)
    rw [e1] at kk
    exact g_35 hv hx hB hB1 h9 hn hc kk hL
  · have k7 := j_ne0_f (a := ck % 20) (by omega) c7
    have e1 : s1G (tp, an, D, (fr, wv, hs), M, ck) = (tp, an, dvX (fun _ s => arD s) D.length D, (fr, wv, hs), M, ck) := if_pos (show ck % 20 = 0 from k7)
    have ov := ov_s1 hv
    have ox := x_s1 hx
    rw [e1] at kk ov ox
    refine e_iconst 11 (v := (nI 0)) dX15_oneTick_10 rfl (by decide) ?_
    refine e_istore_n 12 (ls' := [some (.ref m), some (.int (nI 0)), none]) dX15_oneTick_11 rfl (by decide) rfl ?_
    have hL2 : stars [rmo m F (oW (upN w 4 AN.length) wv lt lf hs.length fr.length ck M.1) (decide (wv 5 ≠ 0)), ar6 (F 1) DL, lst rdve DL, iar (F 3) 300 AN, iar (F 5) 260 PD, rst (F 6) M.2.2.2.2.1 (M.1 20) (M.2.2.2.2.2 1) (M.2.2.2.2.2 2), rrw (F 12) 16 3 (M.2.1.map rqE), rrw (F 13) 32 5 (M.2.2.1.map rsE), rrw (F 14) 8 4 (M.2.2.2.1.map scE), iar (F 21) 260 fr, iar (F 31) 64 (hs.map (·.1)), iar (F 32) 64 (hs.map (·.2))] h := stars_ixn hL 12 rfl [0, 3, 4, 1, 2, 5, 6, 7, 8, 9, 10, 11] (by decide) rfl
    refine l_ob (w := oW (upN w 4 AN.length) wv lt lf hs.length fr.length ck M.1) (D9 := DL.map (·.2)) (show w 2 ≤ 6 by omega) (fun i s (hi : i < w 2) hs9 => ?_) (fun DL9 h8 d9 l9 hL8 => ?_) _ 0 DL h (Nat.lt_succ_self _) (Nat.zero_le _) rfl hc.1 hL2
    · rw [hc.2.1] at hs9
      have hs2 : (D ++ P)[i]? = some s := hs9
      rw [List.getElem?_append_left (by omega)] at hs2
      have hm := List.mem_of_getElem? hs2
      have q := hv.1.2.1 s hm
      have q2 : s.1 20 ≤ B 1 := q.2
      exact ⟨q.1, hv.2 s hm, by omega⟩
    · have hL3 : stars [rmo m F (oW (upN w 4 AN.length) wv lt lf hs.length fr.length ck M.1) (decide (wv 5 ≠ 0)), iar (F 3) 300 AN, iar (F 5) 260 PD, ar6 (F 1) DL9, lst rdve DL9, rst (F 6) M.2.2.2.2.1 (M.1 20) (M.2.2.2.2.2 1) (M.2.2.2.2.2 2), rrw (F 12) 16 3 (M.2.1.map rqE), rrw (F 13) 32 5 (M.2.2.1.map rsE), rrw (F 14) 8 4 (M.2.2.2.1.map scE), iar (F 21) 260 fr, iar (F 31) 64 (hs.map (·.1)), iar (F 32) 64 (hs.map (·.2))] h8 := stars_ixn hL8 12 rfl [0, 3, 4, 1, 2, 5, 6, 7, 8, 9, 10, 11] (by decide) rfl
      have d8 : DL9.map (·.2) = dvX (fun _ s => arD s) (w 2) (DL.map (·.2)) := d9
      refine g_35 (g := (tp, an, dvX (fun _ s => arD s) D.length D, (fr, wv, hs), M, ck)) ov ox hB hB1 h9 (by show w 2 = (dvX (fun _ s => arD s) D.length D).length; rw [dvX_len]; exact hn2) ⟨l9, ?_, hc.2.2⟩ kk hL3
      rw [d8, hn2, hc.2.1]
      exact dvX_app _ (Nat.le_refl _)
