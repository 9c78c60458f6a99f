/-! the reference: tick -/
theorem K_oneTick {m : Nat} {F w B : Nat → Nat} {g : GS} {AN PD : List Nat} {P : List DS} {lt lf : Nat} {DL : List (Nat × DS)} (hv : okV B g) (hx : okX g) (hB : ∀ k, B k + 12 < 2 ^ 29) (hB1 : B 1 < 900000) (h9 : B 10 + 30000 ≤ B 9) (hn : w 2 = g.2.2.1.length) (hc : oC g P lt lf DL) : CA mX15_oneTick [.ref m] (oLg m F w lt lf AN PD DL (rrw (F 14) 8 4 (g.2.2.2.2.1.2.2.2.1.map scE)) g) (fun x K => x = none ∧ ∃ AN9 PD9 DL9 lt9 lf9, oC (stG g) P lt9 lf9 DL9 ∧ K = oLg m F w lt9 lf9 AN9 PD9 DL9 (rrw (F 14) 8 4 ((stG g).2.2.2.2.1.2.2.2.1.map scE)) (stG g)) 7 190 0 0 := by
  refine CA.mk 2 (ls := [some (.ref m), none, none]) rfl rfl (Nat.le_of_ble_eq_true rfl) rfl (fun h hL => ?_)
  exact g_0 hv hx hB hB1 h9 hn hc (fun AN9 PD9 DL9 lt9 lf9 h8 c9 k9 => ⟨_, ⟨rfl, AN9, PD9, DL9, lt9, lf9, c9, rfl⟩, by rw [(st_sc hx hv h9).1]; exact k9⟩) hL
theorem mo_eq {g : GS} {F w : Nat → Nat} {th an lt lf : Nat} {bg : Bool} (h0 : w 0 = th) (h2 : w 2 = g.2.2.1.length) (h35 : w 35 = g.1.length) (h37 : w 37 = g.2.1.length) : moF F (oW (upN w 4 an) g.2.2.2.1.2.1 lt lf g.2.2.2.1.2.2.length g.2.2.2.1.1.length g.2.2.2.2.2 g.2.2.2.2.1.1) bg = moF F (mW g th an lt lf) bg := by
  unfold mW
  rw [← h0, ← h2, ← h35, ← h37]
  rfl
theorem tk_x {t : Nat} {g : GS} (hx : okX g) (hv : okV (bnd t) g) : ∀ i, t + i < 2 ^ 26 → okX (tkGS i g) ∧ (tkGS i g).1 = g.1 ∧ (tkGS i g).2.1 = g.2.1
  | 0, _ => ⟨hx, rfl, rfl⟩
  | i + 1, h => by
    obtain ⟨a, b, c⟩ := tk_x hx hv i (by omega)
    have v := ov_tk hv i
    have s := st_sc a v (Nat.le_refl _)
    exact ⟨x_st a v (by omega), s.2.1.trans b, s.2.2.trans c⟩
theorem bnd_lt2 {t : Nat} (ht : t < 440000) (k : Nat) : bnd t k + 12 < 2 ^ 29 := by
  unfold bnd
  split
  · omega
  · split
    · omega
    · split <;> omega
set_option maxRecDepth 20000 in
theorem l_rtick {m t nt : Nat} {F : Nat → Nat} {g : GS} (hv : okV (bnd t) g) (hx : okX g) (ht : t + nt < 440000) (hn1 : nt ≤ 1000) (h6 : g.2.2.1.length ≤ 6) : ∀ (n : Nat) (i : Nat) (lt lf : Nat) (AN PD : List Nat) (DL : List (Nat × DS)) (h : eH), nt - i < n → i ≤ nt → oC (tkGS i g) (List.replicate (6 - g.2.2.1.length) dsZ) lt lf DL → stars (oLg m F (mW g 0 0 0 0) lt lf AN PD DL (rrw (F 14) 8 4 ((tkGS i g).2.2.2.2.1.2.2.2.1.map scE)) (tkGS i g) ++ [iar (F 34) 400 g.1, iar (F 36) 300 g.2.1]) h → EE mX15_tick 8 220 0 0 (fun r h' => ∃ K, (r = some (.int (nI ((tkGS nt g).2.2.2.1.2.1 9) - nI (g.2.2.2.1.2.1 9))) ∧ K = [rfo m (tkGS nt g) 0]) ∧ stars K h') 36 [some (.ref m), some (.int (nI nt)), some (.int (nI (g.2.2.2.1.2.1 9))), some (.int (nI i))] [] h 0 0 := by
  intro n
  induction n with
  | zero => intro i lt lf AN PD DL h hlt hle hc hL; exact absurd hlt (by omega)
  | succ n ih =>
    intro i lt lf AN PD DL h hlt hle hc hL
    have hvi := ov_tk hv i
    obtain ⟨hxi, t1, t2⟩ := tk_x hx hv i (by omega)
    have hl : (tkGS i g).2.2.1.length = g.2.2.1.length := by
      have y := congrArg List.length hc.2.1
      rw [List.length_map, List.length_append, List.length_replicate, hc.1] at y
      omega
    refine e_iload_n 37 dX15_tick_36 rfl rfl ?_
    refine e_iload_n 38 dX15_tick_37 rfl rfl ?_
    refine e_icmp_ge 51 41 dX15_tick_38 rfl rfl (fun c38 => ?_) (fun c38 => ?_)
    · have k38 := j_ge_t (a := i) (b := nt) (by omega) (by omega) c38
      have hin : i = nt := by omega
      subst hin
      refine e_aload_n 52 dX15_tick_51 rfl rfl ?_
      refine e_get 55 (v := .int (nI ((tkGS i g).2.2.2.1.2.1 9))) dX15_tick_52 rfl fl_X15_394_13 (stars_at _ 0 hL rfl) rfl ?_
      refine e_iload_n 56 dX15_tick_55 rfl rfl ?_
      refine e_isub 57 (v := (nI ((tkGS i g).2.2.2.1.2.1 9) - nI (g.2.2.2.1.2.1 9))) dX15_tick_56 rfl rfl ?_
      refine e_iret dX15_tick_57 rfl (by omega) (by omega) ⟨_, ⟨rfl, rfl⟩, ?_⟩
      refine rfo_c (g := (tkGS i g)) (th := 0) (F := F) (lt := lt) (lf := lf) (AN := AN) (PD := PD) (DL := DL) (X := []) ⟨?_, by rw [hl]; exact h6, hc.2.2⟩ ?_
      · rw [hc.2.1, hl]
      · have e := mo_eq (g := (tkGS i g)) (F := F) (w := (mW g 0 0 0 0)) (th := 0) (an := AN.length) (lt := lt) (lf := lf) (bg := decide ((tkGS i g).2.2.2.1.2.1 5 ≠ 0)) rfl hl.symm (congrArg List.length t1.symm) (congrArg List.length t2.symm)
        have hL2 : stars [rmo m F (oW (upN (mW g 0 0 0 0) 4 AN.length) (tkGS i g).2.2.2.1.2.1 lt lf (tkGS i g).2.2.2.1.2.2.length (tkGS i g).2.2.2.1.1.length (tkGS i g).2.2.2.2.2 (tkGS i g).2.2.2.2.1.1) (decide ((tkGS i g).2.2.2.1.2.1 5 ≠ 0)), ar6 (F 1) DL, lst rdve DL, iar (F 3) 300 AN, iar (F 5) 260 PD, rst (F 6) (tkGS i g).2.2.2.2.1.2.2.2.2.1 ((tkGS i g).2.2.2.2.1.1 20) ((tkGS i g).2.2.2.2.1.2.2.2.2.2 1) ((tkGS i g).2.2.2.2.1.2.2.2.2.2 2), rrw (F 12) 16 3 ((tkGS i g).2.2.2.2.1.2.1.map rqE), rrw (F 13) 32 5 ((tkGS i g).2.2.2.2.1.2.2.1.map rsE), rrw (F 14) 8 4 ((tkGS i g).2.2.2.2.1.2.2.2.1.map scE), iar (F 21) 260 (tkGS i g).2.2.2.1.1, iar (F 31) 64 ((tkGS i g).2.2.2.1.2.2.map (·.1)), iar (F 32) 64 ((tkGS i g).2.2.2.1.2.2.map (·.2)), iar (F 34) 400 g.1, iar (F 36) 300 g.2.1] h := stars_ixn hL 14 rfl [0, 3, 4, 1, 2, 5, 6, 7, 8, 9, 10, 11, 12, 13] (by decide) rfl
        rw [← t1, ← t2] at hL2
        unfold rmo at hL2
        rw [e] at hL2
        exact hL2
    · have k38 := j_ge_f (a := i) (b := nt) (by omega) (by omega) c38
      refine e_aload_n 42 dX15_tick_41 rfl rfl ?_
      refine p_callV 45 hL [0, 1, 2, 3, 4, 5, 6, 7, 8, 9, 10, 11, 12, 13] 14 rfl (by decide) (L1 := oLg m F (mW g 0 0 0 0) lt lf AN PD DL (rrw (F 14) 8 4 ((tkGS i g).2.2.2.2.1.2.2.2.1.map scE)) (tkGS i g)) (L2 := [iar (F 34) 400 g.1, iar (F 36) 300 g.2.1]) rfl isO_pt 0 rfl dX15_tick_42 rfl cv_X15_477 (K_oneTick (g := (tkGS i g)) (P := (List.replicate (6 - g.2.2.1.length) dsZ)) hvi hxi (bnd_lt2 (t := t + i) (by omega)) (by show t + i < 900000; omega) (Nat.le_refl _) hl.symm hc) rfl rfl (Nat.le_of_ble_eq_true rfl) ⟨by decide, by omega, by omega⟩ (fun r1 L1 h8 q hL => ?_)
      obtain ⟨rfl, AN9, PD9, DL9, lt9, lf9, c9, rfl⟩ := q
      refine e_iinc 48 (v := (nI (i + 1))) (ls' := [some (.ref m), some (.int (nI nt)), some (.int (nI (g.2.2.2.1.2.1 9))), some (.int (nI (i + 1)))]) dX15_tick_45 rfl rfl (nI_add i 1) (by decide) rfl ?_
      refine e_goto 36 dX15_tick_48 rfl ?_
      exact ih (i + 1) lt9 lf9 AN9 PD9 DL9 h8 (by omega) (by omega) c9 hL
set_option maxRecDepth 20000 in
set_option maxHeartbeats 2000000 in
theorem k_X15_tick {m th : Nat} {tp an fr : List Nat} {D : List DS} {wv : Nat → Nat} {hs : List (Nat × Nat)} {v : Nat → Nat} {RQ : List RQE} {RS : List RSE} {SC : List SCE} {er : List Nat} {mb : Nat → Bool} {ck : Nat} {t nt : Nat} (hv : okV (bnd t) (tp, an, D, (fr, wv, hs), (v, RQ, RS, SC, er, mb), ck)) (hx : okX (tp, an, D, (fr, wv, hs), (v, RQ, RS, SC, er, mb), ck)) (ht : t + nt < 440000) (na : 1 ≤ nt) (nb : nt ≤ 1000) : CA mX15_tick [.ref m, .int (nI nt)] [rfo m (tp, an, D, (fr, wv, hs), (v, RQ, RS, SC, er, mb), ck) th] (fun r K => r = some (.int (nI ((tkGS nt (tp, an, D, (fr, wv, hs), (v, RQ, RS, SC, er, mb), ck)).2.2.2.1.2.1 9) - nI (wv 9))) ∧ K = [rfo m (tkGS nt (tp, an, D, (fr, wv, hs), (v, RQ, RS, SC, er, mb), ck)) 0]) 8 220 0 0 := by
  refine CA.mk 2 (ls := [some (.ref m), some (.int (nI nt)), none, none]) rfl rfl (Nat.le_of_ble_eq_true rfl) rfl (fun h hL => ?_)
  obtain ⟨F, lt, lf, AN, PD, DL, hc, hL⟩ := rfo_o hL
  have hL : stars [pt m (.inr (13, moF F (mW (tp, an, D, (fr, wv, hs), (v, RQ, RS, SC, er, mb), ck) th AN.length lt lf) (decide (wv 5 ≠ 0)))), pt (F 1) (.inl (6, 6, .inr (.inr (.inr (.inr (adD DL)))))), lst rdve DL, iar (F 3) 300 AN, iar (F 5) 260 PD, rst (F 6) er (v 20) (mb 1) (mb 2), rrw (F 12) 16 3 (RQ.map rqE), rrw (F 13) 32 5 (RS.map rsE), rrw (F 14) 8 4 (SC.map scE), iar (F 21) 260 fr, iar (F 31) 64 (hs.map (·.1)), iar (F 32) 64 (hs.map (·.2)), iar (F 34) 400 tp, iar (F 36) 300 an] h := hL
  have ltp := (iar_V _ 12 hL rfl).le
  have lan := (iar_V _ 13 hL rfl).le
  have lfr := (iar_V _ 9 hL rfl).le
  have hx9 : inI (nI nt) (nI 1) (nI 1000) = true := by simp only [inI, Bool.and_eq_true, decide_eq_true_eq]; exact ⟨nI_le na (by omega), nI_le nb (by decide)⟩
  refine e_aload_n 1 dX15_tick_0 rfl rfl ?_
  refine e_iload_n 2 dX15_tick_1 rfl rfl ?_
  refine e_iconst 3 (v := (nI 1)) dX15_tick_2 rfl (by decide) ?_
  refine e_sipush 6 (v := (nI 1000)) dX15_tick_3 rfl (by decide) ?_
  refine u_callS 9 dX15_tick_6 rfl cs_X15_81 u_inI rfl rfl (Nat.le_of_ble_eq_true rfl) (by decide) ⟨by omega, by omega⟩ ?_
  refine e_if_eq 16 12 dX15_tick_9 rfl rfl (fun c9 => absurd c9 (by rw [hx9]; decide)) (fun c9 => ?_)
  refine e_iconst 13 (v := (nI 0)) dX15_tick_12 rfl (by decide) ?_
  refine e_goto 17 dX15_tick_13 rfl ?_
  refine p_put 20 hL 0 (fs' := moF F (upN (mW (tp, an, D, (fr, wv, hs), (v, RQ, RS, SC, er, mb), ck) th AN.length lt lf) 0 0) (decide (wv 5 ≠ 0))) (L' := [pt m (.inr (13, moF F (upN (mW (tp, an, D, (fr, wv, hs), (v, RQ, RS, SC, er, mb), ck) th AN.length lt lf) 0 0) (decide (wv 5 ≠ 0)))), pt (F 1) (.inl (6, 6, .inr (.inr (.inr (.inr (adD DL)))))), lst rdve DL, iar (F 3) 300 AN, iar (F 5) 260 PD, rst (F 6) er (v 20) (mb 1) (mb 2), rrw (F 12) 16 3 (RQ.map rqE), rrw (F 13) 32 5 (RS.map rsE), rrw (F 14) 8 4 (SC.map scE), iar (F 21) 260 fr, iar (F 31) 64 (hs.map (·.1)), iar (F 32) 64 (hs.map (·.2)), iar (F 34) 400 tp, iar (F 36) 300 an]) rfl rfl dX15_tick_17 rfl fp_X15_73_13 (Or.inl rfl) (Nat.le_of_ble_eq_true rfl) rfl rfl rfl (fun h hL => ?_)
  refine e_aload_n 21 dX15_tick_20 rfl rfl ?_
  refine e_get 24 (v := (.int (nI 0))) dX15_tick_21 rfl fl_X15_73_13 (stars_at _ 0 hL rfl) rfl ?_
  refine e_if_le 29 27 dX15_tick_24 rfl rfl (fun c24 => ?_) (fun c24 => absurd c24 (by decide))
  refine e_aload_n 30 dX15_tick_29 rfl rfl ?_
  refine e_get 33 (v := (.int (nI (wv 9)))) dX15_tick_30 rfl fl_X15_394_13 (stars_at _ 0 hL rfl) rfl ?_
  refine e_istore_n 34 (ls' := [some (.ref m), some (.int (nI nt)), some (.int (nI (wv 9))), none]) dX15_tick_33 rfl (by decide) rfl ?_
  refine e_iconst 35 (v := (nI 0)) dX15_tick_34 rfl (by decide) ?_
  refine e_istore_n 36 (ls' := [some (.ref m), some (.int (nI nt)), some (.int (nI (wv 9))), some (.int (nI 0))]) dX15_tick_35 rfl (by decide) rfl ?_
  have e9 := mo_eq (g := (tp, an, D, (fr, wv, hs), (v, RQ, RS, SC, er, mb), ck)) (F := F) (w := mW (tp, an, D, (fr, wv, hs), (v, RQ, RS, SC, er, mb), ck) 0 0 0 0) (th := 0) (an := AN.length) (lt := lt) (lf := lf) (bg := decide (wv 5 ≠ 0)) rfl rfl rfl rfl
  refine l_rtick (F := F) (g := (tp, an, D, (fr, wv, hs), (v, RQ, RS, SC, er, mb), ck)) hv hx ht nb hc.2.1 _ 0 lt lf AN PD DL h (Nat.lt_succ_self _) (Nat.zero_le _) ⟨?_, hc.1, hc.2.2⟩ ?_
  · have y := congrArg List.length hc.1
    rw [List.length_map, List.length_append, List.length_replicate] at y
    have y2 : D.length ≤ 6 := hc.2.1
    have y3 : DL.length = D.length + (6 - D.length) := y
    omega
  · have hL3 : stars [pt m (.inr (13, moF F (mW (tp, an, D, (fr, wv, hs), (v, RQ, RS, SC, er, mb), ck) 0 AN.length lt lf) (decide (wv 5 ≠ 0)))), iar (F 3) 300 AN, iar (F 5) 260 PD, pt (F 1) (.inl (6, 6, .inr (.inr (.inr (.inr (adD DL)))))), lst rdve DL, rst (F 6) er (v 20) (mb 1) (mb 2), rrw (F 12) 16 3 (RQ.map rqE), rrw (F 13) 32 5 (RS.map rsE), rrw (F 14) 8 4 (SC.map scE), iar (F 21) 260 fr, iar (F 31) 64 (hs.map (·.1)), iar (F 32) 64 (hs.map (·.2)), iar (F 34) 400 tp, iar (F 36) 300 an] h := stars_ixn hL 14 rfl [0, 3, 4, 1, 2, 5, 6, 7, 8, 9, 10, 11, 12, 13] (by decide) rfl
    rw [← e9] at hL3
    exact hL3
set_option maxRecDepth 20000 in
set_option maxHeartbeats 2000000 in
theorem k_X15_tick_o {m th : Nat} {tp an fr : List Nat} {D : List DS} {wv : Nat → Nat} {hs : List (Nat × Nat)} {v : Nat → Nat} {RQ : List RQE} {RS : List RSE} {SC : List SCE} {er : List Nat} {mb : Nat → Bool} {ck : Nat} {x : Int32} (hx9 : inI x (nI 1) (nI 1000) = false) : CA mX15_tick [.ref m, .int x] [rfo m (tp, an, D, (fr, wv, hs), (v, RQ, RS, SC, er, mb), ck) th] (fun r K => r = some (.int (nI 0)) ∧ K = [rfo m (tp, an, D, (fr, wv, hs), (v, RQ, RS, SC, er, mb), ck) 1]) 8 220 0 0 := by
  refine CA.mk 2 (ls := [some (.ref m), some (.int x), none, none]) rfl rfl (Nat.le_of_ble_eq_true rfl) rfl (fun h hL => ?_)
  obtain ⟨F, lt, lf, AN, PD, DL, hc, hL⟩ := rfo_o hL
  have hL : stars [pt m (.inr (13, moF F (mW (tp, an, D, (fr, wv, hs), (v, RQ, RS, SC, er, mb), ck) th AN.length lt lf) (decide (wv 5 ≠ 0)))), pt (F 1) (.inl (6, 6, .inr (.inr (.inr (.inr (adD DL)))))), lst rdve DL, iar (F 3) 300 AN, iar (F 5) 260 PD, rst (F 6) er (v 20) (mb 1) (mb 2), rrw (F 12) 16 3 (RQ.map rqE), rrw (F 13) 32 5 (RS.map rsE), rrw (F 14) 8 4 (SC.map scE), iar (F 21) 260 fr, iar (F 31) 64 (hs.map (·.1)), iar (F 32) 64 (hs.map (·.2)), iar (F 34) 400 tp, iar (F 36) 300 an] h := hL
  have ltp := (iar_V _ 12 hL rfl).le
  have lan := (iar_V _ 13 hL rfl).le
  have lfr := (iar_V _ 9 hL rfl).le
  refine e_aload_n 1 dX15_tick_0 rfl rfl ?_
  refine e_iload_n 2 dX15_tick_1 rfl rfl ?_
  refine e_iconst 3 (v := (nI 1)) dX15_tick_2 rfl (by decide) ?_
  refine e_sipush 6 (v := (nI 1000)) dX15_tick_3 rfl (by decide) ?_
  refine u_callS 9 dX15_tick_6 rfl cs_X15_81 u_inI rfl rfl (Nat.le_of_ble_eq_true rfl) (by decide) ⟨by omega, by omega⟩ ?_
  refine e_if_eq 16 12 dX15_tick_9 rfl rfl (fun c9 => ?_) (fun c9 => absurd c9 (by rw [hx9]; decide))
  refine e_iconst 17 (v := (nI 1)) dX15_tick_16 rfl (by decide) ?_
  refine p_put 20 hL 0 (fs' := moF F (upN (mW (tp, an, D, (fr, wv, hs), (v, RQ, RS, SC, er, mb), ck) th AN.length lt lf) 0 1) (decide (wv 5 ≠ 0))) (L' := [pt m (.inr (13, moF F (upN (mW (tp, an, D, (fr, wv, hs), (v, RQ, RS, SC, er, mb), ck) th AN.length lt lf) 0 1) (decide (wv 5 ≠ 0)))), pt (F 1) (.inl (6, 6, .inr (.inr (.inr (.inr (adD DL)))))), lst rdve DL, iar (F 3) 300 AN, iar (F 5) 260 PD, rst (F 6) er (v 20) (mb 1) (mb 2), rrw (F 12) 16 3 (RQ.map rqE), rrw (F 13) 32 5 (RS.map rsE), rrw (F 14) 8 4 (SC.map scE), iar (F 21) 260 fr, iar (F 31) 64 (hs.map (·.1)), iar (F 32) 64 (hs.map (·.2)), iar (F 34) 400 tp, iar (F 36) 300 an]) rfl rfl dX15_tick_17 rfl fp_X15_73_13 (Or.inl rfl) (Nat.le_of_ble_eq_true rfl) rfl rfl rfl (fun h hL => ?_)
  refine e_aload_n 21 dX15_tick_20 rfl rfl ?_
  refine e_get 24 (v := (.int (nI 1))) dX15_tick_21 rfl fl_X15_73_13 (stars_at _ 0 hL rfl) rfl ?_
  refine e_if_le 29 27 dX15_tick_24 rfl rfl (fun c24 => absurd c24 (by decide)) (fun c24 => ?_)
  refine e_iconst 28 (v := (nI 0)) dX15_tick_27 rfl (by decide) ?_
  exact e_iret dX15_tick_28 rfl (by omega) (by omega) (⟨_, ⟨rfl, rfl⟩, rfo_c (g := (tp, an, D, (fr, wv, hs), (v, RQ, RS, SC, er, mb), ck)) (th := 1) (F := F) (lt := lt) (lf := lf) (AN := AN) (PD := PD) (DL := DL) (X := []) hc (stars_ixn hL 14 rfl [0, 1, 2, 3, 4, 5, 6, 7, 8, 9, 10, 11, 12, 13] (by decide) rfl)⟩)
