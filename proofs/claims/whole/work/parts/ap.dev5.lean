/-! the reference: serve, device -/
theorem tk_s {r : List Nat} {j : Nat} (h : j < r.length) : r.take (j + 1) = r.take j ++ [r.getD j 0] := by
  rw [List.take_succ_eq_append_getElem h]
  simp only [List.getD, List.getElem?_eq_getElem h, Option.getD_some]
theorem rfC_new {g : GS} {DL : List (Nat × DS)} {lt lf : Nat} (hc : rfC g DL lt lf) (h : g.2.2.1.length < 6) : ∃ d, DL[g.2.2.1.length]? = some (d, dsZ) := by
  obtain ⟨⟨d, s⟩, he⟩ : ∃ e, DL[g.2.2.1.length]? = some e := ⟨_, List.getElem?_eq_getElem (show g.2.2.1.length < DL.length by rw [rfC_len hc]; exact h)⟩
  have h1 : (DL.map (·.2))[g.2.2.1.length]? = some s := by rw [List.getElem?_map, he]; rfl
  rw [hc.1, List.getElem?_append_right (Nat.le_refl _), Nat.sub_self, List.getElem?_replicate, if_pos (by omega)] at h1
  exact ⟨d, by rw [he, Option.some.inj h1]⟩
theorem rfC_app {g : GS} {DL : List (Nat × DS)} {lt lf d : Nat} {s1 : DS} (hc : rfC g DL lt lf) (h : g.2.2.1.length < 6) : rfC (g.1, g.2.1, g.2.2.1 ++ [s1], g.2.2.2) (DL.set g.2.2.1.length (d, s1)) lt lf := by
  refine ⟨?_, ?_, hc.2.2⟩
  · rw [List.map_set, hc.1, List.set_append_right _ _ (Nat.le_refl _), Nat.sub_self]
    show _ = (g.2.2.1 ++ [s1]) ++ List.replicate (6 - (g.2.2.1 ++ [s1]).length) dsZ
    rw [List.length_append, List.append_assoc]
    obtain ⟨k, hk⟩ : ∃ k, 6 - g.2.2.1.length = k + 1 := ⟨5 - g.2.2.1.length, by omega⟩
    rw [hk, show 6 - (g.2.2.1.length + [s1].length) = k by show 6 - (g.2.2.1.length + 1) = k; omega]
    rfl
  · show (g.2.2.1 ++ [s1]).length ≤ 6
    rw [List.length_append]
    exact h
theorem tkD_f {D : List DS} {a : Nat} (h : ∀ j t, j < D.length → D[j]? = some t → t.1 1 ≠ a) : tkD D a = false := by
  rw [tkD, List.any_eq_false]
  intro t ht
  obtain ⟨j, hj, e⟩ := List.getElem_of_mem ht
  have := h j t hj (by rw [List.getElem?_eq_getElem hj, e])
  simpa using this
theorem tkD_yes {D : List DS} {a i : Nat} {t : DS} (h : D[i]? = some t) (e : t.1 1 = a) : tkD D a = true := by
  rw [tkD, List.any_eq_true]
  exact ⟨t, List.mem_of_getElem? h, by simpa using e⟩
set_option maxRecDepth 20000 in
set_option maxHeartbeats 2000000 in
theorem l_rserve {m i : Nat} {F w : Nat → Nat} {bg : Bool} {r : List Nat} {X1 X2 X3 X4 X5 X6 X7 X8 X9 X10 X11 : sA} (hr : r.length ≤ 300) {Q : Option Value → eH → Prop} (kk : ∀ h, stars [pt m (.inr (13, moF F (upN w 4 r.length) bg)), iar (F 3) 300 r, iar (F 36) 300 r, X1, X2, X3, X4, X5, X6, X7, X8, X9, X10, X11] h → EE mX15_serve_ 5 130 0 0 Q 88 [some (.ref m), some (.int (nI i)), none] [] h 0 0) : ∀ (n : Nat) (j : Nat) (h : eH), r.length - j < n → j ≤ r.length → stars [pt m (.inr (13, moF F (upN w 4 r.length) bg)), iar (F 3) 300 r, iar (F 36) 300 (r.take j), X1, X2, X3, X4, X5, X6, X7, X8, X9, X10, X11] h → EE mX15_serve_ 5 130 0 0 (Q) 62 [some (.ref m), some (.int (nI i)), some (.int (nI j))] [] h 0 0 := by
  intro n
  induction n with
  | zero => intro j h hlt hle hL; exact absurd hlt (by omega)
  | succ n ih =>
    intro j h hlt hle hL
    refine e_iload_n 63 dX15_serve__62 rfl rfl ?_
    refine e_aload_n 64 dX15_serve__63 rfl rfl ?_
    refine e_get 67 (v := (.int (nI r.length))) dX15_serve__64 rfl fl_X15_89_13 (stars_at _ 0 hL rfl) rfl ?_
    refine e_icmp_ge 88 70 dX15_serve__67 rfl rfl (fun c67 => ?_) (fun c67 => ?_)
    · have k67 := j_ge_t (a := j) (b := r.length) (by omega) (by omega) c67
      rw [show j = r.length by omega, List.take_length] at hL
      refine e_wk [some (.ref m), some (.int (nI i)), none] ⟨rfl, rfl, trivial⟩ ?_
      exact kk h hL
    · have k67 := j_ge_f (a := j) (b := r.length) (by omega) (by omega) c67
      refine e_aload_n 71 dX15_serve__70 rfl rfl ?_
      refine e_get 74 (v := (.ref (F 36))) dX15_serve__71 rfl fl_X15_69_13 (stars_at _ 0 hL rfl) rfl ?_
      refine e_iload_n 75 dX15_serve__74 rfl rfl ?_
      refine e_aload_n 76 dX15_serve__75 rfl rfl ?_
      refine e_get 79 (v := (.ref (F 3))) dX15_serve__76 rfl fl_X15_15_13 (stars_at _ 0 hL rfl) rfl ?_
      refine e_iload_n 80 dX15_serve__79 rfl rfl ?_
      refine v_iald 81 (r := r) (iar_V _ 1 hL rfl) (k := j) (x := (r.getD j 0)) dX15_serve__80 rfl (by omega) (by omega) rfl ?_
      refine p_iastR 82 hL 2 (r := (r.take j)) (r' := (r.take (j + 1))) (k := j) (v := (r.getD j 0)) (L' := [pt m (.inr (13, moF F (upN w 4 r.length) bg)), iar (F 3) 300 r, iar (F 36) 300 (r.take (j + 1)), X1, X2, X3, X4, X5, X6, X7, X8, X9, X10, X11]) rfl dX15_serve__81 rfl (by omega) (by omega) (iw_apl (by rw [List.length_take]; omega) (tk_s (by omega)) (by rw [List.length_take]; omega)) rfl (fun h hL => ?_)
      refine e_iinc 85 (v := (nI (j + 1))) (ls' := [some (.ref m), some (.int (nI i)), some (.int (nI (j + 1)))]) dX15_serve__82 rfl rfl (nI_add j 1) (by decide) rfl ?_
      refine e_goto 62 dX15_serve__85 rfl ?_
      refine e_wk [some (.ref m), some (.int (nI i)), some (.int (nI (j + 1)))] ⟨rfl, rfl, rfl, trivial⟩ ?_
      exact ih (j + 1) h (by omega) (by omega) hL
set_option maxRecDepth 20000 in
set_option maxHeartbeats 2000000 in
theorem k_X15_serve_ {m th : Nat} {tp an fr : List Nat} {D : List DS} {wv : Nat → Nat} {hs : List (Nat × Nat)} {v : Nat → Nat} {RQ : List RQE} {RS : List RSE} {SC : List SCE} {er : List Nat} {mb : Nat → Bool} {ck : Nat} (hE : ∀ s ∈ D, okD s ∧ okE s) {x1 : Int32} (ht : ∀ x ∈ tp, x < 256) : CA mX15_serve_ [.ref m, .int x1] [rfo m (tp, an, D, (fr, wv, hs), (v, RQ, RS, SC, er, mb), ck) th] (fun r K => r = some (.int (seR (tp, an, D, (fr, wv, hs), (v, RQ, RS, SC, er, mb), ck) x1)) ∧ K = [rfo m (seG (tp, an, D, (fr, wv, hs), (v, RQ, RS, SC, er, mb), ck) x1) 0]) 5 130 0 0 := by
  refine CA.mk 1 (ls := [some (.ref m), some (.int x1), none]) rfl rfl (Nat.le_of_ble_eq_true rfl) rfl (fun h hL => ?_)
  obtain ⟨F, lt, lf, AN, PD, DL, hc, hL⟩ := rfo_o hL
  have hL : stars [pt m (.inr (13, moF F (mW (tp, an, D, (fr, wv, hs), (v, RQ, RS, SC, er, mb), ck) th AN.length lt lf) (decide (wv 5 ≠ 0)))), pt (F 1) (.inl (6, 6, .inr (.inr (.inr (.inr (adD DL)))))), lst rdve DL, iar (F 3) 300 AN, iar (F 5) 260 PD, rst (F 6) er (v 20) (mb 1) (mb 2), rrw (F 12) 16 3 (RQ.map rqE), rrw (F 13) 32 5 (RS.map rsE), rrw (F 14) 8 4 (SC.map scE), iar (F 21) 260 fr, iar (F 31) 64 (hs.map (·.1)), iar (F 32) 64 (hs.map (·.2)), iar (F 34) 400 tp, iar (F 36) 300 an] h := hL
  have ltp := (iar_V _ 12 hL rfl).le
  have lan := (iar_V _ 13 hL rfl).le
  have lfr := (iar_V _ 9 hL rfl).le
  have h6 : D.length ≤ 6 := hc.2.1
  have hl9 := rfC_len hc
  refine e_aload_n 1 dX15_serve__0 rfl rfl ?_
  refine e_iconst 2 (v := (nI 0)) dX15_serve__1 rfl (by decide) ?_
  refine p_put 5 hL 0 (fs' := moF F (upN (mW (tp, an, D, (fr, wv, hs), (v, RQ, RS, SC, er, mb), ck) th AN.length lt lf) 0 0) (decide (wv 5 ≠ 0))) (L' := [pt m (.inr (13, moF F (upN (mW (tp, an, D, (fr, wv, hs), (v, RQ, RS, SC, er, mb), ck) th AN.length lt lf) 0 0) (decide (wv 5 ≠ 0)))), pt (F 1) (.inl (6, 6, .inr (.inr (.inr (.inr (adD DL)))))), lst rdve DL, iar (F 3) 300 AN, iar (F 5) 260 PD, rst (F 6) er (v 20) (mb 1) (mb 2), rrw (F 12) 16 3 (RQ.map rqE), rrw (F 13) 32 5 (RS.map rsE), rrw (F 14) 8 4 (SC.map scE), iar (F 21) 260 fr, iar (F 31) 64 (hs.map (·.1)), iar (F 32) 64 (hs.map (·.2)), iar (F 34) 400 tp, iar (F 36) 300 an]) rfl rfl dX15_serve__2 rfl fp_X15_73_13 (Or.inl rfl) (Nat.le_of_ble_eq_true rfl) rfl rfl rfl (fun h hL => ?_)
  refine e_aload_n 6 dX15_serve__5 rfl rfl ?_
  refine e_iload_n 7 dX15_serve__6 rfl rfl ?_
  refine u_callV 10 dX15_serve__7 rfl cv_X15_435 (stars_at _ 0 hL rfl) (u_isDev (n := D.length) (stars_at _ 0 hL rfl) rfl (by omega)) rfl rfl (Nat.le_of_ble_eq_true rfl) (by decide) ⟨by omega, by omega⟩ ?_
  refine e_if_eq 27 13 dX15_serve__10 rfl rfl (fun c10 => ?_) (fun c10 => ?_)
  · have k10 := jb_eq_t c10
    refine e_iconst 28 (v := (-1)) dX15_serve__27 rfl (by decide) ?_
    exact e_iret dX15_serve__28 rfl (by omega) (by omega) (⟨_, ⟨by rw [seR, if_neg (show ¬ seC (tp, an, D, (fr, wv, hs), (v, RQ, RS, SC, er, mb), ck) x1 = true by rw [show seC (tp, an, D, (fr, wv, hs), (v, RQ, RS, SC, er, mb), ck) x1 = false by show (dIn D.length _ && _) = _; rw [k10]; rfl]; decide)], by rw [seG, if_neg (show ¬ seC (tp, an, D, (fr, wv, hs), (v, RQ, RS, SC, er, mb), ck) x1 = true by rw [show seC (tp, an, D, (fr, wv, hs), (v, RQ, RS, SC, er, mb), ck) x1 = false by show (dIn D.length _ && _) = _; rw [k10]; rfl]; decide)]⟩, rfo_c (g := (tp, an, D, (fr, wv, hs), (v, RQ, RS, SC, er, mb), ck)) (th := 0) (F := F) (lt := lt) (lf := lf) (AN := AN) (PD := PD) (DL := DL) (X := []) hc (stars_ixn hL 14 rfl [0, 1, 2, 3, 4, 5, 6, 7, 8, 9, 10, 11, 12, 13] (by decide) rfl)⟩)
  · have k10 := jb_eq_f c10
    obtain ⟨i, rfl, hi⟩ := dIn_nat (by omega) k10
    have ic : (nI i).toNatClampNeg = i := nI_clamp (by omega)
    obtain ⟨⟨d, s⟩, he⟩ : ∃ e, DL[i]? = some e := ⟨_, List.getElem?_eq_getElem (show i < DL.length by omega)⟩
    have hsD : D[i]? = some s := rfC_at hc he hi
    have hg : gD (tp, an, D, (fr, wv, hs), (v, RQ, RS, SC, er, mb), ck) i = s := gD_of hsD
    obtain ⟨hok, hoe⟩ := hE s (List.mem_of_getElem? hsD)
    refine e_aload_n 14 dX15_serve__13 rfl rfl ?_
    refine e_get 17 (v := (.int (nI tp.length))) dX15_serve__14 rfl fl_X15_432_13 (stars_at _ 0 hL rfl) rfl ?_
    refine e_iconst 18 (v := (nI 1)) dX15_serve__17 rfl (by decide) ?_
    refine e_sipush 21 (v := (nI 253)) dX15_serve__18 rfl (by decide) ?_
    refine u_callS 24 dX15_serve__21 rfl cs_X15_81 (u_inN (by omega) (by omega) (by omega)) rfl rfl (Nat.le_of_ble_eq_true rfl) (by decide) ⟨by omega, by omega⟩ ?_
    refine e_if_ne 29 27 dX15_serve__24 rfl rfl (fun c24 => ?_) (fun c24 => ?_)
    · have k24 := jin_ne_t c24
      have hL : stars [lst rdve DL, pt m (.inr (13, moF F (upN (mW (tp, an, D, (fr, wv, hs), (v, RQ, RS, SC, er, mb), ck) th AN.length lt lf) 0 0) (decide (wv 5 ≠ 0)))), pt (F 1) (.inl (6, 6, .inr (.inr (.inr (.inr (adD DL)))))), iar (F 3) 300 AN, iar (F 5) 260 PD, rst (F 6) er (v 20) (mb 1) (mb 2), rrw (F 12) 16 3 (RQ.map rqE), rrw (F 13) 32 5 (RS.map rsE), rrw (F 14) 8 4 (SC.map scE), iar (F 21) 260 fr, iar (F 31) 64 (hs.map (·.1)), iar (F 32) 64 (hs.map (·.2)), iar (F 34) 400 tp, iar (F 36) 300 an] h := stars_ixn hL 14 rfl [2, 0, 1, 3, 4, 5, 6, 7, 8, 9, 10, 11, 12, 13] (by decide) rfl
      have hL : stars [rdv d s, lst rdve (DL.eraseIdx i), pt m (.inr (13, moF F (upN (mW (tp, an, D, (fr, wv, hs), (v, RQ, RS, SC, er, mb), ck) th AN.length lt lf) 0 0) (decide (wv 5 ≠ 0)))), pt (F 1) (.inl (6, 6, .inr (.inr (.inr (.inr (adD DL)))))), iar (F 3) 300 AN, iar (F 5) 260 PD, rst (F 6) er (v 20) (mb 1) (mb 2), rrw (F 12) 16 3 (RQ.map rqE), rrw (F 13) 32 5 (RS.map rsE), rrw (F 14) 8 4 (SC.map scE), iar (F 21) 260 fr, iar (F 31) 64 (hs.map (·.1)), iar (F 32) 64 (hs.map (·.2)), iar (F 34) 400 tp, iar (F 36) 300 an] h := lst_o i he hL
      refine e_aload_n 30 dX15_serve__29 rfl rfl ?_
      refine e_aload_n 31 dX15_serve__30 rfl rfl ?_
      refine e_get 34 (v := (.ref (F 1))) dX15_serve__31 rfl fl_X15_9_13 (stars_at _ 2 hL rfl) rfl ?_
      refine e_iload_n 35 dX15_serve__34 rfl rfl ?_
      refine p_aaldD 36 hL 3 (v := d) (k := i) rfl (adD_at he) dX15_serve__35 rfl (by omega) ?_
      refine e_aload_n 37 dX15_serve__36 rfl rfl ?_
      refine e_get 40 (v := (.ref (F 34))) dX15_serve__37 rfl fl_X15_66_13 (stars_at _ 2 hL rfl) rfl ?_
      refine e_aload_n 41 dX15_serve__40 rfl rfl ?_
      refine e_get 44 (v := (.int (nI tp.length))) dX15_serve__41 rfl fl_X15_432_13 (stars_at _ 2 hL rfl) rfl ?_
      have hL : stars [rdv d s, lst rdve (DL.eraseIdx i), pt m (.inr (13, moF F (upN (upN (mW (tp, an, D, (fr, wv, hs), (v, RQ, RS, SC, er, mb), ck) th AN.length lt lf) 0 0) 4 AN.length) (decide (wv 5 ≠ 0)))), pt (F 1) (.inl (6, 6, .inr (.inr (.inr (.inr (adD DL)))))), iar (F 3) 300 AN, iar (F 5) 260 PD, rst (F 6) er (v 20) (mb 1) (mb 2), rrw (F 12) 16 3 (RQ.map rqE), rrw (F 13) 32 5 (RS.map rsE), rrw (F 14) 8 4 (SC.map scE), iar (F 21) 260 fr, iar (F 31) 64 (hs.map (·.1)), iar (F 32) 64 (hs.map (·.2)), iar (F 34) 400 tp, iar (F 36) 300 an] h := hL
      have hL : stars [pt m (.inr (13, moF F (upN (upN (mW (tp, an, D, (fr, wv, hs), (v, RQ, RS, SC, er, mb), ck) th AN.length lt lf) 0 0) 4 AN.length) (decide (wv 5 ≠ 0)))), iar (F 3) 300 AN, rdv d s, lst rdve (DL.eraseIdx i), pt (F 1) (.inl (6, 6, .inr (.inr (.inr (.inr (adD DL)))))), iar (F 5) 260 PD, rst (F 6) er (v 20) (mb 1) (mb 2), rrw (F 12) 16 3 (RQ.map rqE), rrw (F 13) 32 5 (RS.map rsE), rrw (F 14) 8 4 (SC.map scE), iar (F 21) 260 fr, iar (F 31) 64 (hs.map (·.1)), iar (F 32) 64 (hs.map (·.2)), iar (F 34) 400 tp, iar (F 36) 300 an] h := stars_ixn hL 15 rfl [2, 4, 0, 1, 3, 5, 6, 7, 8, 9, 10, 11, 12, 13, 14] (by decide) rfl
      have hL : stars [ansP m F (upN (mW (tp, an, D, (fr, wv, hs), (v, RQ, RS, SC, er, mb), ck) th AN.length lt lf) 0 0) (decide (wv 5 ≠ 0)) AN, rdv d s, lst rdve (DL.eraseIdx i), pt (F 1) (.inl (6, 6, .inr (.inr (.inr (.inr (adD DL)))))), iar (F 5) 260 PD, rst (F 6) er (v 20) (mb 1) (mb 2), rrw (F 12) 16 3 (RQ.map rqE), rrw (F 13) 32 5 (RS.map rsE), rrw (F 14) 8 4 (SC.map scE), iar (F 21) 260 fr, iar (F 31) 64 (hs.map (·.1)), iar (F 32) 64 (hs.map (·.2)), iar (F 34) 400 tp, iar (F 36) 300 an] h := ans_c hL
      refine p_callV 47 hL [0, 1, 12, 2, 3, 4, 5, 6, 7, 8, 9, 10, 11, 13] 14 rfl (by decide) (L1 := [ansP m F (upN (mW (tp, an, D, (fr, wv, hs), (v, RQ, RS, SC, er, mb), ck) th AN.length lt lf) 0 0) (decide (wv 5 ≠ 0)) AN, rdv d s, iar (F 34) 400 tp]) (L2 := [lst rdve (DL.eraseIdx i), pt (F 1) (.inl (6, 6, .inr (.inr (.inr (.inr (adD DL)))))), iar (F 5) 260 PD, rst (F 6) er (v 20) (mb 1) (mb 2), rrw (F 12) 16 3 (RQ.map rqE), rrw (F 13) 32 5 (RS.map rsE), rrw (F 14) 8 4 (SC.map scE), iar (F 21) 260 fr, iar (F 31) 64 (hs.map (·.1)), iar (F 32) 64 (hs.map (·.2)), iar (F 36) 300 an]) rfl ans_O 0 rfl dX15_serve__44 rfl cv_X15_254 (k_X15_serve (r := AN) hoe hok (by decide) ht (by omega) (by omega)) rfl rfl (Nat.le_of_ble_eq_true rfl) ⟨by decide, by omega, by omega⟩ (fun r1 L1 h q hL => ?_)
      obtain ⟨rfl, rfl⟩ := q
      have hL : stars [ansP m F (upN (mW (tp, an, D, (fr, wv, hs), (v, RQ, RS, SC, er, mb), ck) th AN.length lt lf) 0 0) (decide (wv 5 ≠ 0)) (svA s tp), rdv d (svS s tp), iar (F 34) 400 tp, lst rdve (DL.eraseIdx i), pt (F 1) (.inl (6, 6, .inr (.inr (.inr (.inr (adD DL)))))), iar (F 5) 260 PD, rst (F 6) er (v 20) (mb 1) (mb 2), rrw (F 12) 16 3 (RQ.map rqE), rrw (F 13) 32 5 (RS.map rsE), rrw (F 14) 8 4 (SC.map scE), iar (F 21) 260 fr, iar (F 31) 64 (hs.map (·.1)), iar (F 32) 64 (hs.map (·.2)), iar (F 36) 300 an] h := hL
      have hL : stars [ansP m F (upN (mW (tp, an, D, (fr, wv, hs), (v, RQ, RS, SC, er, mb), ck) th AN.length lt lf) 0 0) (decide (wv 5 ≠ 0)) (svA s tp), rdv d (svS s tp), lst rdve (DL.eraseIdx i), pt (F 1) (.inl (6, 6, .inr (.inr (.inr (.inr (adD DL)))))), iar (F 5) 260 PD, rst (F 6) er (v 20) (mb 1) (mb 2), rrw (F 12) 16 3 (RQ.map rqE), rrw (F 13) 32 5 (RS.map rsE), rrw (F 14) 8 4 (SC.map scE), iar (F 21) 260 fr, iar (F 31) 64 (hs.map (·.1)), iar (F 32) 64 (hs.map (·.2)), iar (F 34) 400 tp, iar (F 36) 300 an] h := stars_ixn hL 14 rfl [0, 1, 3, 4, 5, 6, 7, 8, 9, 10, 11, 12, 2, 13] (by decide) rfl
      have hL : stars [pt m (.inr (13, moF F (upN (upN (mW (tp, an, D, (fr, wv, hs), (v, RQ, RS, SC, er, mb), ck) th AN.length lt lf) 0 0) 4 (svA s tp).length) (decide (wv 5 ≠ 0)))), iar (F 3) 300 (svA s tp), rdv d (svS s tp), lst rdve (DL.eraseIdx i), pt (F 1) (.inl (6, 6, .inr (.inr (.inr (.inr (adD DL)))))), iar (F 5) 260 PD, rst (F 6) er (v 20) (mb 1) (mb 2), rrw (F 12) 16 3 (RQ.map rqE), rrw (F 13) 32 5 (RS.map rsE), rrw (F 14) 8 4 (SC.map scE), iar (F 21) 260 fr, iar (F 31) 64 (hs.map (·.1)), iar (F 32) 64 (hs.map (·.2)), iar (F 34) 400 tp, iar (F 36) 300 an] h := ans_o hL
      have lsv := (iar_V _ 1 hL rfl).le
      have hL : stars [pt m (.inr (13, moF F (upN (upN (mW (tp, an, D, (fr, wv, hs), (v, RQ, RS, SC, er, mb), ck) th AN.length lt lf) 0 0) 4 (svA s tp).length) (decide (wv 5 ≠ 0)))), iar (F 3) 300 (svA s tp), rdv d (svS s tp), lst rdve (DL.eraseIdx i), pt (F 1) (.inl (6, 6, .inr (.inr (.inr (.inr (adD DL)))))), iar (F 5) 260 PD, rst (F 6) er (v 20) (mb 1) (mb 2), rrw (F 12) 16 3 (RQ.map rqE), rrw (F 13) 32 5 (RS.map rsE), rrw (F 14) 8 4 (SC.map scE), iar (F 21) 260 fr, iar (F 31) 64 (hs.map (·.1)), iar (F 32) 64 (hs.map (·.2)), iar (F 34) 400 ([]), iar (F 36) 300 an] h := iar_em 13 hL rfl rfl
      have hL : stars [pt m (.inr (13, moF F (upN (upN (mW (tp, an, D, (fr, wv, hs), (v, RQ, RS, SC, er, mb), ck) th AN.length lt lf) 0 0) 4 (svA s tp).length) (decide (wv 5 ≠ 0)))), iar (F 3) 300 (svA s tp), rdv d (svS s tp), lst rdve (DL.eraseIdx i), pt (F 1) (.inl (6, 6, .inr (.inr (.inr (.inr (adD DL)))))), iar (F 5) 260 PD, rst (F 6) er (v 20) (mb 1) (mb 2), rrw (F 12) 16 3 (RQ.map rqE), rrw (F 13) 32 5 (RS.map rsE), rrw (F 14) 8 4 (SC.map scE), iar (F 21) 260 fr, iar (F 31) 64 (hs.map (·.1)), iar (F 32) 64 (hs.map (·.2)), iar (F 34) 400 ([]), iar (F 36) 300 ([])] h := iar_em 14 hL rfl rfl
      have hL : stars [rdv d (svS s tp), lst rdve (DL.eraseIdx i), pt m (.inr (13, moF F (upN (upN (mW (tp, an, D, (fr, wv, hs), (v, RQ, RS, SC, er, mb), ck) th AN.length lt lf) 0 0) 4 (svA s tp).length) (decide (wv 5 ≠ 0)))), iar (F 3) 300 (svA s tp), pt (F 1) (.inl (6, 6, .inr (.inr (.inr (.inr (adD DL)))))), iar (F 5) 260 PD, rst (F 6) er (v 20) (mb 1) (mb 2), rrw (F 12) 16 3 (RQ.map rqE), rrw (F 13) 32 5 (RS.map rsE), rrw (F 14) 8 4 (SC.map scE), iar (F 21) 260 fr, iar (F 31) 64 (hs.map (·.1)), iar (F 32) 64 (hs.map (·.2)), iar (F 34) 400 ([]), iar (F 36) 300 ([])] h := stars_ixn hL 15 rfl [2, 3, 0, 1, 4, 5, 6, 7, 8, 9, 10, 11, 12, 13, 14] (by decide) rfl
      have hL : stars [lst rdve (DL.set i (d, (svS s tp))), pt m (.inr (13, moF F (upN (upN (mW (tp, an, D, (fr, wv, hs), (v, RQ, RS, SC, er, mb), ck) th AN.length lt lf) 0 0) 4 (svA s tp).length) (decide (wv 5 ≠ 0)))), iar (F 3) 300 (svA s tp), pt (F 1) (.inl (6, 6, .inr (.inr (.inr (.inr (adD DL)))))), iar (F 5) 260 PD, rst (F 6) er (v 20) (mb 1) (mb 2), rrw (F 12) 16 3 (RQ.map rqE), rrw (F 13) 32 5 (RS.map rsE), rrw (F 14) 8 4 (SC.map scE), iar (F 21) 260 fr, iar (F 31) 64 (hs.map (·.1)), iar (F 32) 64 (hs.map (·.2)), iar (F 34) 400 ([]), iar (F 36) 300 ([])] h := lst_c (f := rdve) (x := (d, (svS s tp))) i (by omega) hL
      rw [adD_set he (svS s tp)] at hL
      have hL : stars [lst rdve (DL.set i (d, (svS s tp))), pt m (.inr (13, moF F (upN (upN (mW (tp, an, D, (fr, wv, hs), (v, RQ, RS, SC, er, mb), ck) th AN.length lt lf) 0 0) 4 (svA s tp).length) (decide (wv 5 ≠ 0)))), iar (F 3) 300 (svA s tp), pt (F 1) (.inl (6, 6, .inr (.inr (.inr (.inr (adD (DL.set i (d, (svS s tp))))))))), iar (F 5) 260 PD, rst (F 6) er (v 20) (mb 1) (mb 2), rrw (F 12) 16 3 (RQ.map rqE), rrw (F 13) 32 5 (RS.map rsE), rrw (F 14) 8 4 (SC.map scE), iar (F 21) 260 fr, iar (F 31) 64 (hs.map (·.1)), iar (F 32) 64 (hs.map (·.2)), iar (F 34) 400 ([]), iar (F 36) 300 ([])] h := hL
      refine e_aload_n 48 dX15_serve__47 rfl rfl ?_
      refine e_iconst 49 (v := (nI 0)) dX15_serve__48 rfl (by decide) ?_
      refine p_put 52 hL 1 (fs' := moF F (upN (upN (upN (mW (tp, an, D, (fr, wv, hs), (v, RQ, RS, SC, er, mb), ck) th AN.length lt lf) 0 0) 4 (svA s tp).length) 35 0) (decide (wv 5 ≠ 0))) (L' := [lst rdve (DL.set i (d, (svS s tp))), pt m (.inr (13, moF F (upN (upN (upN (mW (tp, an, D, (fr, wv, hs), (v, RQ, RS, SC, er, mb), ck) th AN.length lt lf) 0 0) 4 (svA s tp).length) 35 0) (decide (wv 5 ≠ 0)))), iar (F 3) 300 (svA s tp), pt (F 1) (.inl (6, 6, .inr (.inr (.inr (.inr (adD (DL.set i (d, (svS s tp))))))))), iar (F 5) 260 PD, rst (F 6) er (v 20) (mb 1) (mb 2), rrw (F 12) 16 3 (RQ.map rqE), rrw (F 13) 32 5 (RS.map rsE), rrw (F 14) 8 4 (SC.map scE), iar (F 21) 260 fr, iar (F 31) 64 (hs.map (·.1)), iar (F 32) 64 (hs.map (·.2)), iar (F 34) 400 ([]), iar (F 36) 300 ([])]) rfl rfl dX15_serve__49 rfl fp_X15_432_13 (Or.inl rfl) (Nat.le_of_ble_eq_true rfl) rfl rfl rfl (fun h hL => ?_)
      refine e_aload_n 53 dX15_serve__52 rfl rfl ?_
      refine e_aload_n 54 dX15_serve__53 rfl rfl ?_
      refine e_get 57 (v := (.int (nI (svA s tp).length))) dX15_serve__54 rfl fl_X15_89_13 (stars_at _ 1 hL rfl) rfl ?_
      refine p_put 60 hL 1 (fs' := moF F (upN (upN (upN (upN (mW (tp, an, D, (fr, wv, hs), (v, RQ, RS, SC, er, mb), ck) th AN.length lt lf) 0 0) 4 (svA s tp).length) 35 0) 37 ((svA s tp).length)) (decide (wv 5 ≠ 0))) (L' := [lst rdve (DL.set i (d, (svS s tp))), pt m (.inr (13, moF F (upN (upN (upN (upN (mW (tp, an, D, (fr, wv, hs), (v, RQ, RS, SC, er, mb), ck) th AN.length lt lf) 0 0) 4 (svA s tp).length) 35 0) 37 ((svA s tp).length)) (decide (wv 5 ≠ 0)))), iar (F 3) 300 (svA s tp), pt (F 1) (.inl (6, 6, .inr (.inr (.inr (.inr (adD (DL.set i (d, (svS s tp))))))))), iar (F 5) 260 PD, rst (F 6) er (v 20) (mb 1) (mb 2), rrw (F 12) 16 3 (RQ.map rqE), rrw (F 13) 32 5 (RS.map rsE), rrw (F 14) 8 4 (SC.map scE), iar (F 21) 260 fr, iar (F 31) 64 (hs.map (·.1)), iar (F 32) 64 (hs.map (·.2)), iar (F 34) 400 ([]), iar (F 36) 300 ([])]) rfl rfl dX15_serve__57 rfl fp_X15_474_13 (Or.inl rfl) (Nat.le_of_ble_eq_true rfl) rfl rfl rfl (fun h hL => ?_)
      have hL : stars [pt m (.inr (13, moF F (upN (upN (upN (upN (mW (tp, an, D, (fr, wv, hs), (v, RQ, RS, SC, er, mb), ck) th AN.length lt lf) 0 0) 4 (svA s tp).length) 35 0) 37 ((svA s tp).length)) (decide (wv 5 ≠ 0)))), iar (F 3) 300 (svA s tp), iar (F 36) 300 ([]), lst rdve (DL.set i (d, (svS s tp))), pt (F 1) (.inl (6, 6, .inr (.inr (.inr (.inr (adD (DL.set i (d, (svS s tp))))))))), iar (F 5) 260 PD, rst (F 6) er (v 20) (mb 1) (mb 2), rrw (F 12) 16 3 (RQ.map rqE), rrw (F 13) 32 5 (RS.map rsE), rrw (F 14) 8 4 (SC.map scE), iar (F 21) 260 fr, iar (F 31) 64 (hs.map (·.1)), iar (F 32) 64 (hs.map (·.2)), iar (F 34) 400 ([])] h := stars_ixn hL 14 rfl [1, 2, 13, 0, 3, 4, 5, 6, 7, 8, 9, 10, 11, 12] (by decide) rfl
      refine e_iconst 61 (v := (nI 0)) dX15_serve__60 rfl (by decide) ?_
      refine e_istore_n 62 (ls' := [some (.ref m), some (.int (nI i)), some (.int (nI 0))]) dX15_serve__61 rfl (by decide) rfl ?_
      have hL2 : stars [pt m (.inr (13, moF F (upN (upN (upN (upN (mW (tp, an, D, (fr, wv, hs), (v, RQ, RS, SC, er, mb), ck) th AN.length lt lf) 0 0) 35 0) 37 (svA s tp).length) 4 (svA s tp).length) (decide (wv 5 ≠ 0)))), iar (F 3) 300 (svA s tp), iar (F 36) 300 ((svA s tp).take 0), lst rdve (DL.set i (d, (svS s tp))), pt (F 1) (.inl (6, 6, .inr (.inr (.inr (.inr (adD (DL.set i (d, (svS s tp))))))))), iar (F 5) 260 PD, rst (F 6) er (v 20) (mb 1) (mb 2), rrw (F 12) 16 3 (RQ.map rqE), rrw (F 13) 32 5 (RS.map rsE), rrw (F 14) 8 4 (SC.map scE), iar (F 21) 260 fr, iar (F 31) 64 (hs.map (·.1)), iar (F 32) 64 (hs.map (·.2)), iar (F 34) 400 ([])] h := hL
      refine l_rserve (r := (svA s tp)) (w := (upN (upN (upN (mW (tp, an, D, (fr, wv, hs), (v, RQ, RS, SC, er, mb), ck) th AN.length lt lf) 0 0) 35 0) 37 (svA s tp).length)) lsv (fun h hL => ?_) _ 0 h (Nat.lt_succ_self _) (Nat.zero_le _) hL2
      have eo : moF F (upN (upN (upN (upN (mW (tp, an, D, (fr, wv, hs), (v, RQ, RS, SC, er, mb), ck) th AN.length lt lf) 0 0) 35 0) 37 (svA s tp).length) 4 (svA s tp).length) (decide (wv 5 ≠ 0)) = moF F (upN (upN (upN (upN (upN (mW (tp, an, D, (fr, wv, hs), (v, RQ, RS, SC, er, mb), ck) th AN.length lt lf) 0 0) 35 0) 37 (svA s tp).length) 4 (svA s tp).length) 2 (D.set i (svS s tp)).length) (decide (wv 5 ≠ 0)) := by rw [List.length_set]; rfl
      rw [eo] at hL
      have hL : stars [pt m (.inr (13, moF F (upN (upN (upN (upN (upN (mW (tp, an, D, (fr, wv, hs), (v, RQ, RS, SC, er, mb), ck) th AN.length lt lf) 0 0) 35 0) 37 (svA s tp).length) 4 (svA s tp).length) 2 (D.set i (svS s tp)).length) (decide (wv 5 ≠ 0)))), iar (F 3) 300 (svA s tp), iar (F 36) 300 (svA s tp), lst rdve (DL.set i (d, (svS s tp))), pt (F 1) (.inl (6, 6, .inr (.inr (.inr (.inr (adD (DL.set i (d, (svS s tp))))))))), iar (F 5) 260 PD, rst (F 6) er (v 20) (mb 1) (mb 2), rrw (F 12) 16 3 (RQ.map rqE), rrw (F 13) 32 5 (RS.map rsE), rrw (F 14) 8 4 (SC.map scE), iar (F 21) 260 fr, iar (F 31) 64 (hs.map (·.1)), iar (F 32) 64 (hs.map (·.2)), iar (F 34) 400 ([])] h := hL
      refine e_aload_n 89 dX15_serve__88 rfl rfl ?_
      refine e_get 92 (v := (.int (nI (svA s tp).length))) dX15_serve__89 rfl fl_X15_474_13 (stars_at _ 0 hL rfl) rfl ?_
      exact e_iret dX15_serve__92 rfl (by omega) (by omega) (⟨_, ⟨by rw [seR, if_pos (show seC (tp, an, D, (fr, wv, hs), (v, RQ, RS, SC, er, mb), ck) (nI i) = true by show (dIn D.length _ && inN tp.length 1 253) = _; rw [k10, Bool.true_and]; simp only [inN, Bool.and_eq_true, decide_eq_true_eq]; omega), ic, hg], by rw [seG, if_pos (show seC (tp, an, D, (fr, wv, hs), (v, RQ, RS, SC, er, mb), ck) (nI i) = true by show (dIn D.length _ && inN tp.length 1 253) = _; rw [k10, Bool.true_and]; simp only [inN, Bool.and_eq_true, decide_eq_true_eq]; omega), ic, hg]⟩, rfo_c (g := ([], (svA s tp), D.set i (svS s tp), (fr, wv, hs), (v, RQ, RS, SC, er, mb), ck)) (th := 0) (F := F) (lt := lt) (lf := lf) (AN := (svA s tp)) (PD := PD) (DL := (DL.set i (d, (svS s tp)))) (X := []) (rfC_set (s1 := (svS s tp)) hc he hi) (stars_ixn hL 14 rfl [0, 4, 3, 1, 5, 6, 7, 8, 9, 10, 11, 12, 13, 2] (by decide) rfl)⟩)
    · have k24 := jin_ne_f c24
      refine e_iconst 28 (v := (-1)) dX15_serve__27 rfl (by decide) ?_
      exact e_iret dX15_serve__28 rfl (by omega) (by omega) (⟨_, ⟨by rw [seR, if_neg (show ¬ seC (tp, an, D, (fr, wv, hs), (v, RQ, RS, SC, er, mb), ck) (nI i) = true by rw [show seC (tp, an, D, (fr, wv, hs), (v, RQ, RS, SC, er, mb), ck) (nI i) = false by show (dIn D.length _ && inN tp.length 1 253) = _; rw [k10, Bool.true_and]; simp only [inN, Bool.and_eq_false_iff, decide_eq_false_iff_not]; omega]; decide)], by rw [seG, if_neg (show ¬ seC (tp, an, D, (fr, wv, hs), (v, RQ, RS, SC, er, mb), ck) (nI i) = true by rw [show seC (tp, an, D, (fr, wv, hs), (v, RQ, RS, SC, er, mb), ck) (nI i) = false by show (dIn D.length _ && inN tp.length 1 253) = _; rw [k10, Bool.true_and]; simp only [inN, Bool.and_eq_false_iff, decide_eq_false_iff_not]; omega]; decide)]⟩, rfo_c (g := (tp, an, D, (fr, wv, hs), (v, RQ, RS, SC, er, mb), ck)) (th := 0) (F := F) (lt := lt) (lf := lf) (AN := AN) (PD := PD) (DL := DL) (X := []) hc (stars_ixn hL 14 rfl [0, 1, 2, 3, 4, 5, 6, 7, 8, 9, 10, 11, 12, 13] (by decide) rfl)⟩)
set_option maxRecDepth 20000 in
set_option maxHeartbeats 2000000 in
theorem l_rdev {m th : Nat} {tp an fr : List Nat} {D : List DS} {wv : Nat → Nat} {hs : List (Nat × Nat)} {v : Nat → Nat} {RQ : List RQE} {RS : List RSE} {SC : List SCE} {er : List Nat} {mb : Nat → Bool} {ck : Nat} {F : Nat → Nat} {lt lf a l : Nat} {AN PD : List Nat} {DL : List (Nat × DS)} (hc : rfC (tp, an, D, (fr, wv, hs), (v, RQ, RS, SC, er, mb), ck) DL lt lf) (h6 : D.length ≤ 6) (hl9 : DL.length = 6) (hE : ∀ s ∈ D, okD s ∧ okE s) (ha : a < 248) {Q : Option Value → eH → Prop} (kn : ∀ h (j : Nat) (t : DS), D[j]? = some t → t.1 1 = a → stars [pt m (.inr (13, moF F (upN (mW (tp, an, D, (fr, wv, hs), (v, RQ, RS, SC, er, mb), ck) th AN.length lt lf) 0 0) (decide (wv 5 ≠ 0)))), pt (F 1) (.inl (6, 6, .inr (.inr (.inr (.inr (adD DL)))))), lst rdve DL, iar (F 3) 300 AN, iar (F 5) 260 PD, rst (F 6) er (v 20) (mb 1) (mb 2), rrw (F 12) 16 3 (RQ.map rqE), rrw (F 13) 32 5 (RS.map rsE), rrw (F 14) 8 4 (SC.map scE), iar (F 21) 260 fr, iar (F 31) 64 (hs.map (·.1)), iar (F 32) 64 (hs.map (·.2)), iar (F 34) 400 tp, iar (F 36) 300 an] h → Q (some (.int (-1))) h) (kk : ∀ h, (∀ (q : Nat) (t : DS), q < D.length → D[q]? = some t → t.1 1 ≠ a) → stars [pt m (.inr (13, moF F (upN (mW (tp, an, D, (fr, wv, hs), (v, RQ, RS, SC, er, mb), ck) th AN.length lt lf) 0 0) (decide (wv 5 ≠ 0)))), pt (F 1) (.inl (6, 6, .inr (.inr (.inr (.inr (adD DL)))))), lst rdve DL, iar (F 3) 300 AN, iar (F 5) 260 PD, rst (F 6) er (v 20) (mb 1) (mb 2), rrw (F 12) 16 3 (RQ.map rqE), rrw (F 13) 32 5 (RS.map rsE), rrw (F 14) 8 4 (SC.map scE), iar (F 21) 260 fr, iar (F 31) 64 (hs.map (·.1)), iar (F 32) 64 (hs.map (·.2)), iar (F 34) 400 tp, iar (F 36) 300 an] h → EE mX15_device 2 60 0 0 Q 69 [some (.ref m), some (.int (nI a)), some (.int (nI l)), none] [] h 0 0) : ∀ (n : Nat) (j : Nat) (h : eH), D.length - j < n → j ≤ D.length → (∀ (q : Nat) (t : DS), q < j → D[q]? = some t → t.1 1 ≠ a) → stars [pt m (.inr (13, moF F (upN (mW (tp, an, D, (fr, wv, hs), (v, RQ, RS, SC, er, mb), ck) th AN.length lt lf) 0 0) (decide (wv 5 ≠ 0)))), pt (F 1) (.inl (6, 6, .inr (.inr (.inr (.inr (adD DL)))))), lst rdve DL, iar (F 3) 300 AN, iar (F 5) 260 PD, rst (F 6) er (v 20) (mb 1) (mb 2), rrw (F 12) 16 3 (RQ.map rqE), rrw (F 13) 32 5 (RS.map rsE), rrw (F 14) 8 4 (SC.map scE), iar (F 21) 260 fr, iar (F 31) 64 (hs.map (·.1)), iar (F 32) 64 (hs.map (·.2)), iar (F 34) 400 tp, iar (F 36) 300 an] h → EE mX15_device 2 60 0 0 (Q) 40 [some (.ref m), some (.int (nI a)), some (.int (nI l)), some (.int (nI j))] [] h 0 0 := by
  intro n
  induction n with
  | zero => intro j h hlt hle h1 hL; exact absurd hlt (by omega)
  | succ n ih =>
    intro j h hlt hle h1 hL
    refine e_iload_n 41 dX15_device_40 rfl rfl ?_
    refine e_aload_n 42 dX15_device_41 rfl rfl ?_
    refine e_get 45 (v := (.int (nI D.length))) dX15_device_42 rfl fl_X15_78_13 (stars_at _ 0 hL rfl) rfl ?_
    refine e_icmp_ge 69 48 dX15_device_45 rfl rfl (fun c45 => ?_) (fun c45 => ?_)
    · have k45 := j_ge_t (a := j) (b := D.length) (by omega) (by omega) c45
      refine e_wk [some (.ref m), some (.int (nI a)), some (.int (nI l)), none] ⟨rfl, rfl, rfl, trivial⟩ ?_
      exact kk h (fun q t hq => h1 q t (by omega)) hL
    · have k45 := j_ge_f (a := j) (b := D.length) (by omega) (by omega) c45
      obtain ⟨⟨d, s⟩, he⟩ : ∃ e, DL[j]? = some e := ⟨_, List.getElem?_eq_getElem (show j < DL.length by omega)⟩
      have hsD : D[j]? = some s := rfC_at hc he (by show j < D.length; omega)
      obtain ⟨hok, hoe⟩ := hE s (List.mem_of_getElem? hsD)
      have ha1 : s.1 1 < 248 := hok.2.2.2.2.2.2.2.2.2.2.2.2.2.1
      refine e_aload_n 49 dX15_device_48 rfl rfl ?_
      refine e_get 52 (v := (.ref (F 1))) dX15_device_49 rfl fl_X15_9_13 (stars_at _ 0 hL rfl) rfl ?_
      refine e_iload_n 53 dX15_device_52 rfl rfl ?_
      refine p_aaldD 54 hL 1 (v := d) (k := j) rfl (adD_at he) dX15_device_53 rfl (by omega) ?_
      obtain ⟨A, v0, v1, v2, v3, v4, v5, v6, v7, v8, v9, v10, v11, v12, v13, v14, v15, v16, v17, v18, v19, v20, v21⟩ := lst_V 2 hL rfl he
      refine e_get 57 (v := (.int (nI (s.1 1)))) dX15_device_54 rfl fl_X15_248_10 v0 rfl ?_
      refine e_iload_n 58 dX15_device_57 rfl rfl ?_
      refine e_icmp_ne 63 61 dX15_device_58 rfl rfl (fun c58 => ?_) (fun c58 => ?_)
      · have k58 := j_ne_t (a := (s.1 1)) (b := a) (by omega) (by omega) c58
        refine e_iinc 66 (v := (nI (j + 1))) (ls' := [some (.ref m), some (.int (nI a)), some (.int (nI l)), some (.int (nI (j + 1)))]) dX15_device_63 rfl rfl (nI_add j 1) (by decide) rfl ?_
        refine e_goto 40 dX15_device_66 rfl ?_
        refine e_wk [some (.ref m), some (.int (nI a)), some (.int (nI l)), some (.int (nI (j + 1)))] ⟨rfl, rfl, rfl, rfl, trivial⟩ ?_
        exact ih (j + 1) h (by omega) (by omega) (fun q t hq ht => (Nat.lt_succ_iff_lt_or_eq.mp hq).elim (fun z => h1 q t z ht) (fun z => by subst z; rw [hsD] at ht; rw [← Option.some.inj ht]; exact k58)) hL
      · have k58 := j_ne_f (a := (s.1 1)) (b := a) (by omega) (by omega) c58
        refine e_iconst 62 (v := (-1)) dX15_device_61 rfl (by decide) ?_
        exact e_iret dX15_device_62 rfl (by omega) (by omega) (kn h j s hsD (by omega) hL)
set_option maxRecDepth 20000 in
set_option maxHeartbeats 2000000 in
theorem k_X15_device {m th : Nat} {tp an fr : List Nat} {D : List DS} {wv : Nat → Nat} {hs : List (Nat × Nat)} {v : Nat → Nat} {RQ : List RQE} {RS : List RSE} {SC : List SCE} {er : List Nat} {mb : Nat → Bool} {ck : Nat} (hE : ∀ s ∈ D, okD s ∧ okE s) {x1 x2 : Int32} : CA mX15_device [.ref m, .int x1, .int x2] [rfo m (tp, an, D, (fr, wv, hs), (v, RQ, RS, SC, er, mb), ck) th] (fun r K => r = some (.int (dvR (tp, an, D, (fr, wv, hs), (v, RQ, RS, SC, er, mb), ck) x1 x2)) ∧ K = [rfo m (dvG (tp, an, D, (fr, wv, hs), (v, RQ, RS, SC, er, mb), ck) x1 x2) 0]) 2 60 0 0 := by
  refine CA.mk 1 (ls := [some (.ref m), some (.int x1), some (.int x2), none]) rfl rfl (Nat.le_of_ble_eq_true rfl) rfl (fun h hL => ?_)
  obtain ⟨F, lt, lf, AN, PD, DL, hc, hL⟩ := rfo_o hL
  have hL : stars [pt m (.inr (13, moF F (mW (tp, an, D, (fr, wv, hs), (v, RQ, RS, SC, er, mb), ck) th AN.length lt lf) (decide (wv 5 ≠ 0)))), pt (F 1) (.inl (6, 6, .inr (.inr (.inr (.inr (adD DL)))))), lst rdve DL, iar (F 3) 300 AN, iar (F 5) 260 PD, rst (F 6) er (v 20) (mb 1) (mb 2), rrw (F 12) 16 3 (RQ.map rqE), rrw (F 13) 32 5 (RS.map rsE), rrw (F 14) 8 4 (SC.map scE), iar (F 21) 260 fr, iar (F 31) 64 (hs.map (·.1)), iar (F 32) 64 (hs.map (·.2)), iar (F 34) 400 tp, iar (F 36) 300 an] h := hL
  have ltp := (iar_V _ 12 hL rfl).le
  have lan := (iar_V _ 13 hL rfl).le
  have lfr := (iar_V _ 9 hL rfl).le
  have h6 : D.length ≤ 6 := hc.2.1
  have hl9 := rfC_len hc
  refine e_aload_n 1 dX15_device_0 rfl rfl ?_
  refine e_iconst 2 (v := (nI 0)) dX15_device_1 rfl (by decide) ?_
  refine p_put 5 hL 0 (fs' := moF F (upN (mW (tp, an, D, (fr, wv, hs), (v, RQ, RS, SC, er, mb), ck) th AN.length lt lf) 0 0) (decide (wv 5 ≠ 0))) (L' := [pt m (.inr (13, moF F (upN (mW (tp, an, D, (fr, wv, hs), (v, RQ, RS, SC, er, mb), ck) th AN.length lt lf) 0 0) (decide (wv 5 ≠ 0)))), pt (F 1) (.inl (6, 6, .inr (.inr (.inr (.inr (adD DL)))))), lst rdve DL, iar (F 3) 300 AN, iar (F 5) 260 PD, rst (F 6) er (v 20) (mb 1) (mb 2), rrw (F 12) 16 3 (RQ.map rqE), rrw (F 13) 32 5 (RS.map rsE), rrw (F 14) 8 4 (SC.map scE), iar (F 21) 260 fr, iar (F 31) 64 (hs.map (·.1)), iar (F 32) 64 (hs.map (·.2)), iar (F 34) 400 tp, iar (F 36) 300 an]) rfl rfl dX15_device_2 rfl fp_X15_73_13 (Or.inl rfl) (Nat.le_of_ble_eq_true rfl) rfl rfl rfl (fun h hL => ?_)
  refine e_aload_n 6 dX15_device_5 rfl rfl ?_
  refine e_get 9 (v := (.int (nI D.length))) dX15_device_6 rfl fl_X15_78_13 (stars_at _ 0 hL rfl) rfl ?_
  refine e_bipush 11 (v := (nI 6)) dX15_device_9 rfl (by decide) ?_
  refine e_icmp_eq 36 14 dX15_device_11 rfl rfl (fun c11 => ?_) (fun c11 => ?_)
  · have k11 := j_eq_t (a := D.length) (b := 6) (by omega) (by omega) c11
    refine e_iconst 37 (v := (-1)) dX15_device_36 rfl (by decide) ?_
    exact e_iret dX15_device_37 rfl (by omega) (by omega) (⟨_, ⟨by rw [dvR, if_neg (show ¬ dvC (tp, an, D, (fr, wv, hs), (v, RQ, RS, SC, er, mb), ck) x1 x2 = true by rw [show dvC (tp, an, D, (fr, wv, hs), (v, RQ, RS, SC, er, mb), ck) x1 x2 = false by show (decide (D.length < 6) && (inI _ _ _ && (inI _ _ _ && _))) = _; rw [decide_eq_false (show ¬ D.length < 6 by omega)]; rfl]; decide)], by rw [dvG, if_neg (show ¬ dvC (tp, an, D, (fr, wv, hs), (v, RQ, RS, SC, er, mb), ck) x1 x2 = true by rw [show dvC (tp, an, D, (fr, wv, hs), (v, RQ, RS, SC, er, mb), ck) x1 x2 = false by show (decide (D.length < 6) && (inI _ _ _ && (inI _ _ _ && _))) = _; rw [decide_eq_false (show ¬ D.length < 6 by omega)]; rfl]; decide)]⟩, rfo_c (g := (tp, an, D, (fr, wv, hs), (v, RQ, RS, SC, er, mb), ck)) (th := 0) (F := F) (lt := lt) (lf := lf) (AN := AN) (PD := PD) (DL := DL) (X := []) hc (stars_ixn hL 14 rfl [0, 1, 2, 3, 4, 5, 6, 7, 8, 9, 10, 11, 12, 13] (by decide) rfl)⟩)
  · have k11 := j_eq_f (a := D.length) (b := 6) (by omega) (by omega) c11
    refine e_iload_n 15 dX15_device_14 rfl rfl ?_
    refine e_iconst 16 (v := (nI 1)) dX15_device_15 rfl (by decide) ?_
    refine e_sipush 19 (v := (nI 247)) dX15_device_16 rfl (by decide) ?_
    refine u_callS 22 dX15_device_19 rfl cs_X15_81 u_inI rfl rfl (Nat.le_of_ble_eq_true rfl) (by decide) ⟨by omega, by omega⟩ ?_
    refine e_if_eq 36 25 dX15_device_22 rfl rfl (fun c22 => ?_) (fun c22 => ?_)
    · have k22 := jb_eq_t c22
      refine e_iconst 37 (v := (-1)) dX15_device_36 rfl (by decide) ?_
      exact e_iret dX15_device_37 rfl (by omega) (by omega) (⟨_, ⟨by rw [dvR, if_neg (show ¬ dvC (tp, an, D, (fr, wv, hs), (v, RQ, RS, SC, er, mb), ck) x1 x2 = true by rw [show dvC (tp, an, D, (fr, wv, hs), (v, RQ, RS, SC, er, mb), ck) x1 x2 = false by show (decide (D.length < 6) && (inI _ _ _ && (inI _ _ _ && _))) = _; rw [k22, Bool.false_and, Bool.and_false]]; decide)], by rw [dvG, if_neg (show ¬ dvC (tp, an, D, (fr, wv, hs), (v, RQ, RS, SC, er, mb), ck) x1 x2 = true by rw [show dvC (tp, an, D, (fr, wv, hs), (v, RQ, RS, SC, er, mb), ck) x1 x2 = false by show (decide (D.length < 6) && (inI _ _ _ && (inI _ _ _ && _))) = _; rw [k22, Bool.false_and, Bool.and_false]]; decide)]⟩, rfo_c (g := (tp, an, D, (fr, wv, hs), (v, RQ, RS, SC, er, mb), ck)) (th := 0) (F := F) (lt := lt) (lf := lf) (AN := AN) (PD := PD) (DL := DL) (X := []) hc (stars_ixn hL 14 rfl [0, 1, 2, 3, 4, 5, 6, 7, 8, 9, 10, 11, 12, 13] (by decide) rfl)⟩)
    · have k22 := jb_eq_f c22
      obtain ⟨a, rfl, aa, ab⟩ := inI_nat (by first | decide | omega) (by first | decide | omega) k22
      have ac : (nI a).toNatClampNeg = a := nI_clamp (by omega)
      refine e_iload_n 26 dX15_device_25 rfl rfl ?_
      refine e_iconst 27 (v := (nI 0)) dX15_device_26 rfl (by decide) ?_
      refine e_sipush 30 (v := (nI 2000)) dX15_device_27 rfl (by decide) ?_
      refine u_callS 33 dX15_device_30 rfl cs_X15_81 u_inI rfl rfl (Nat.le_of_ble_eq_true rfl) (by decide) ⟨by omega, by omega⟩ ?_
      refine e_if_ne 38 36 dX15_device_33 rfl rfl (fun c33 => ?_) (fun c33 => ?_)
      · have k33 := jb_ne_t c33
        obtain ⟨l, rfl, la, lb⟩ := inI_nat (by first | decide | omega) (by first | decide | omega) k33
        have lc : (nI l).toNatClampNeg = l := nI_clamp (by omega)
        refine e_iconst 39 (v := (nI 0)) dX15_device_38 rfl (by decide) ?_
        refine e_istore_n 40 (ls' := [some (.ref m), some (.int (nI a)), some (.int (nI l)), some (.int (nI 0))]) dX15_device_39 rfl (by decide) rfl ?_
        refine l_rdev hc h6 hl9 hE (by omega) (fun h q t hq ht hL => ⟨_, ⟨by rw [dvR, if_neg (show ¬ dvC (tp, an, D, (fr, wv, hs), (v, RQ, RS, SC, er, mb), ck) (nI a) (nI l) = true by rw [show dvC (tp, an, D, (fr, wv, hs), (v, RQ, RS, SC, er, mb), ck) (nI a) (nI l) = false by show (decide (D.length < 6) && (inI _ _ _ && (inI _ _ _ && !tkD D (nI a).toNatClampNeg))) = _; rw [k22, k33, ac, tkD_yes hq ht]; simp]; decide)], by rw [dvG, if_neg (show ¬ dvC (tp, an, D, (fr, wv, hs), (v, RQ, RS, SC, er, mb), ck) (nI a) (nI l) = true by rw [show dvC (tp, an, D, (fr, wv, hs), (v, RQ, RS, SC, er, mb), ck) (nI a) (nI l) = false by show (decide (D.length < 6) && (inI _ _ _ && (inI _ _ _ && !tkD D (nI a).toNatClampNeg))) = _; rw [k22, k33, ac, tkD_yes hq ht]; simp]; decide)]⟩, rfo_c (g := (tp, an, D, (fr, wv, hs), (v, RQ, RS, SC, er, mb), ck)) (th := 0) (F := F) (lt := lt) (lf := lf) (AN := AN) (PD := PD) (DL := DL) (X := []) hc (stars_ixn hL 14 rfl [0, 1, 2, 3, 4, 5, 6, 7, 8, 9, 10, 11, 12, 13] (by decide) rfl)⟩) (fun h hno hL => ?_) _ 0 h (Nat.lt_succ_self _) (Nat.zero_le _) (fun q t hq => absurd hq (Nat.not_lt_zero q)) hL
        obtain ⟨d, he⟩ := rfC_new hc (by show D.length < 6; omega)
        have he : DL[D.length]? = some (d, dsZ) := he
        have hL : stars [lst rdve DL, pt m (.inr (13, moF F (upN (mW (tp, an, D, (fr, wv, hs), (v, RQ, RS, SC, er, mb), ck) th AN.length lt lf) 0 0) (decide (wv 5 ≠ 0)))), pt (F 1) (.inl (6, 6, .inr (.inr (.inr (.inr (adD DL)))))), iar (F 3) 300 AN, iar (F 5) 260 PD, rst (F 6) er (v 20) (mb 1) (mb 2), rrw (F 12) 16 3 (RQ.map rqE), rrw (F 13) 32 5 (RS.map rsE), rrw (F 14) 8 4 (SC.map scE), iar (F 21) 260 fr, iar (F 31) 64 (hs.map (·.1)), iar (F 32) 64 (hs.map (·.2)), iar (F 34) 400 tp, iar (F 36) 300 an] h := stars_ixn hL 14 rfl [2, 0, 1, 3, 4, 5, 6, 7, 8, 9, 10, 11, 12, 13] (by decide) rfl
        have hL : stars [rdv d dsZ, lst rdve (DL.eraseIdx D.length), pt m (.inr (13, moF F (upN (mW (tp, an, D, (fr, wv, hs), (v, RQ, RS, SC, er, mb), ck) th AN.length lt lf) 0 0) (decide (wv 5 ≠ 0)))), pt (F 1) (.inl (6, 6, .inr (.inr (.inr (.inr (adD DL)))))), iar (F 3) 300 AN, iar (F 5) 260 PD, rst (F 6) er (v 20) (mb 1) (mb 2), rrw (F 12) 16 3 (RQ.map rqE), rrw (F 13) 32 5 (RS.map rsE), rrw (F 14) 8 4 (SC.map scE), iar (F 21) 260 fr, iar (F 31) 64 (hs.map (·.1)), iar (F 32) 64 (hs.map (·.2)), iar (F 34) 400 tp, iar (F 36) 300 an] h := lst_o D.length he hL
        obtain ⟨A, hL⟩ := rdv_on hL
        have hL : stars [pt d (.inr (10, rdF A dsZ)), rRn A dsZ, lst rdve (DL.eraseIdx D.length), pt m (.inr (13, moF F (upN (mW (tp, an, D, (fr, wv, hs), (v, RQ, RS, SC, er, mb), ck) th AN.length lt lf) 0 0) (decide (wv 5 ≠ 0)))), pt (F 1) (.inl (6, 6, .inr (.inr (.inr (.inr (adD DL)))))), iar (F 3) 300 AN, iar (F 5) 260 PD, rst (F 6) er (v 20) (mb 1) (mb 2), rrw (F 12) 16 3 (RQ.map rqE), rrw (F 13) 32 5 (RS.map rsE), rrw (F 14) 8 4 (SC.map scE), iar (F 21) 260 fr, iar (F 31) 64 (hs.map (·.1)), iar (F 32) 64 (hs.map (·.2)), iar (F 34) 400 tp, iar (F 36) 300 an] h := hL
        refine e_aload_n 70 dX15_device_69 rfl rfl ?_
        refine e_get 73 (v := (.ref (F 1))) dX15_device_70 rfl fl_X15_9_13 (stars_at _ 3 hL rfl) rfl ?_
        refine e_aload_n 74 dX15_device_73 rfl rfl ?_
        refine e_get 77 (v := (.int (nI D.length))) dX15_device_74 rfl fl_X15_78_13 (stars_at _ 3 hL rfl) rfl ?_
        refine p_aaldD 78 hL 4 (v := d) (k := D.length) rfl (adD_at he) dX15_device_77 rfl (by omega) ?_
        refine e_astore_n 79 (ls' := [some (.ref m), some (.int (nI a)), some (.int (nI l)), some (.ref d)]) dX15_device_78 rfl (by decide) rfl ?_
        refine e_aload_n 80 dX15_device_79 rfl rfl ?_
        refine e_iload_n 81 dX15_device_80 rfl rfl ?_
        refine p_put 84 hL 0 (fs' := (rdF A dsZ).set 5 (.int (nI a))) (L' := [pt d (.inr (10, (rdF A dsZ).set 5 (.int (nI a)))), rRn A dsZ, lst rdve (DL.eraseIdx D.length), pt m (.inr (13, moF F (upN (mW (tp, an, D, (fr, wv, hs), (v, RQ, RS, SC, er, mb), ck) th AN.length lt lf) 0 0) (decide (wv 5 ≠ 0)))), pt (F 1) (.inl (6, 6, .inr (.inr (.inr (.inr (adD DL)))))), iar (F 3) 300 AN, iar (F 5) 260 PD, rst (F 6) er (v 20) (mb 1) (mb 2), rrw (F 12) 16 3 (RQ.map rqE), rrw (F 13) 32 5 (RS.map rsE), rrw (F 14) 8 4 (SC.map scE), iar (F 21) 260 fr, iar (F 31) 64 (hs.map (·.1)), iar (F 32) 64 (hs.map (·.2)), iar (F 34) 400 tp, iar (F 36) 300 an]) rfl rfl dX15_device_81 rfl fp_X15_248_10 (Or.inl rfl) (Nat.le_of_ble_eq_true rfl) rfl rfl rfl (fun h hL => ?_)
        refine e_aload_n 85 dX15_device_84 rfl rfl ?_
        refine e_iload_n 86 dX15_device_85 rfl rfl ?_
        refine p_put 89 hL 0 (fs' := ((rdF A dsZ).set 5 (.int (nI a))).set 6 (.int (nI l))) (L' := [pt d (.inr (10, ((rdF A dsZ).set 5 (.int (nI a))).set 6 (.int (nI l)))), rRn A dsZ, lst rdve (DL.eraseIdx D.length), pt m (.inr (13, moF F (upN (mW (tp, an, D, (fr, wv, hs), (v, RQ, RS, SC, er, mb), ck) th AN.length lt lf) 0 0) (decide (wv 5 ≠ 0)))), pt (F 1) (.inl (6, 6, .inr (.inr (.inr (.inr (adD DL)))))), iar (F 3) 300 AN, iar (F 5) 260 PD, rst (F 6) er (v 20) (mb 1) (mb 2), rrw (F 12) 16 3 (RQ.map rqE), rrw (F 13) 32 5 (RS.map rsE), rrw (F 14) 8 4 (SC.map scE), iar (F 21) 260 fr, iar (F 31) 64 (hs.map (·.1)), iar (F 32) 64 (hs.map (·.2)), iar (F 34) 400 tp, iar (F 36) 300 an]) rfl rfl dX15_device_86 rfl fp_X15_263_10 (Or.inl rfl) (Nat.le_of_ble_eq_true rfl) rfl rfl rfl (fun h hL => ?_)
        refine e_aload_n 90 dX15_device_89 rfl rfl ?_
        refine e_aload_n 91 dX15_device_90 rfl rfl ?_
        refine e_get 94 (v := (.int (nI D.length))) dX15_device_91 rfl fl_X15_78_13 (stars_at _ 3 hL rfl) rfl ?_
        refine p_put 97 hL 0 (fs' := (((rdF A dsZ).set 5 (.int (nI a))).set 6 (.int (nI l))).set 7 (.int (nI D.length))) (L' := [pt d (.inr (10, (((rdF A dsZ).set 5 (.int (nI a))).set 6 (.int (nI l))).set 7 (.int (nI D.length)))), rRn A dsZ, lst rdve (DL.eraseIdx D.length), pt m (.inr (13, moF F (upN (mW (tp, an, D, (fr, wv, hs), (v, RQ, RS, SC, er, mb), ck) th AN.length lt lf) 0 0) (decide (wv 5 ≠ 0)))), pt (F 1) (.inl (6, 6, .inr (.inr (.inr (.inr (adD DL)))))), iar (F 3) 300 AN, iar (F 5) 260 PD, rst (F 6) er (v 20) (mb 1) (mb 2), rrw (F 12) 16 3 (RQ.map rqE), rrw (F 13) 32 5 (RS.map rsE), rrw (F 14) 8 4 (SC.map scE), iar (F 21) 260 fr, iar (F 31) 64 (hs.map (·.1)), iar (F 32) 64 (hs.map (·.2)), iar (F 34) 400 tp, iar (F 36) 300 an]) rfl rfl dX15_device_94 rfl fp_X15_195_10 (Or.inl rfl) (Nat.le_of_ble_eq_true rfl) rfl rfl rfl (fun h hL => ?_)
        refine e_aload_n 98 dX15_device_97 rfl rfl ?_
        refine e_dup 99 dX15_device_98 rfl rfl ?_
        refine e_get 102 (v := (.int (nI D.length))) dX15_device_99 rfl fl_X15_78_13 (stars_at _ 3 hL rfl) rfl ?_
        refine e_iconst 103 (v := (nI 1)) dX15_device_102 rfl (by decide) ?_
        refine e_iadd 104 (v := (nI (D.length + 1))) dX15_device_103 rfl (nI_add D.length 1) ?_
        refine p_put 107 hL 3 (fs' := moF F (upN (upN (mW (tp, an, D, (fr, wv, hs), (v, RQ, RS, SC, er, mb), ck) th AN.length lt lf) 0 0) 2 (D.length + 1)) (decide (wv 5 ≠ 0))) (L' := [pt d (.inr (10, (((rdF A dsZ).set 5 (.int (nI a))).set 6 (.int (nI l))).set 7 (.int (nI D.length)))), rRn A dsZ, lst rdve (DL.eraseIdx D.length), pt m (.inr (13, moF F (upN (upN (mW (tp, an, D, (fr, wv, hs), (v, RQ, RS, SC, er, mb), ck) th AN.length lt lf) 0 0) 2 (D.length + 1)) (decide (wv 5 ≠ 0)))), pt (F 1) (.inl (6, 6, .inr (.inr (.inr (.inr (adD DL)))))), iar (F 3) 300 AN, iar (F 5) 260 PD, rst (F 6) er (v 20) (mb 1) (mb 2), rrw (F 12) 16 3 (RQ.map rqE), rrw (F 13) 32 5 (RS.map rsE), rrw (F 14) 8 4 (SC.map scE), iar (F 21) 260 fr, iar (F 31) 64 (hs.map (·.1)), iar (F 32) 64 (hs.map (·.2)), iar (F 34) 400 tp, iar (F 36) 300 an]) rfl rfl dX15_device_104 rfl fp_X15_78_13 (Or.inl rfl) (Nat.le_of_ble_eq_true rfl) rfl rfl rfl (fun h hL => ?_)
        refine e_aload_n 108 dX15_device_107 rfl rfl ?_
        refine e_get 111 (v := (.int (nI D.length))) dX15_device_108 rfl fl_X15_195_10 (stars_at _ 0 hL rfl) rfl ?_
        have hL : stars [rdv d (dsN D.length a l), lst rdve (DL.eraseIdx D.length), pt m (.inr (13, moF F (upN (upN (mW (tp, an, D, (fr, wv, hs), (v, RQ, RS, SC, er, mb), ck) th AN.length lt lf) 0 0) 2 (D.length + 1)) (decide (wv 5 ≠ 0)))), pt (F 1) (.inl (6, 6, .inr (.inr (.inr (.inr (adD DL)))))), iar (F 3) 300 AN, iar (F 5) 260 PD, rst (F 6) er (v 20) (mb 1) (mb 2), rrw (F 12) 16 3 (RQ.map rqE), rrw (F 13) 32 5 (RS.map rsE), rrw (F 14) 8 4 (SC.map scE), iar (F 21) 260 fr, iar (F 31) 64 (hs.map (·.1)), iar (F 32) 64 (hs.map (·.2)), iar (F 34) 400 tp, iar (F 36) 300 an] h := rdv_cn (s := dsZ) (A := A) (fs' := (((rdF A dsZ).set 5 (.int (nI a))).set 6 (.int (nI l))).set 7 (.int (nI D.length))) (v := upN (fun i => [D.length, a, l].getD i 0) 20 14) (B := fun _ => false) rfl rfl hL
        have hL : stars [lst rdve (DL.set D.length (d, (dsN D.length a l))), pt m (.inr (13, moF F (upN (upN (mW (tp, an, D, (fr, wv, hs), (v, RQ, RS, SC, er, mb), ck) th AN.length lt lf) 0 0) 2 (D.length + 1)) (decide (wv 5 ≠ 0)))), pt (F 1) (.inl (6, 6, .inr (.inr (.inr (.inr (adD DL)))))), iar (F 3) 300 AN, iar (F 5) 260 PD, rst (F 6) er (v 20) (mb 1) (mb 2), rrw (F 12) 16 3 (RQ.map rqE), rrw (F 13) 32 5 (RS.map rsE), rrw (F 14) 8 4 (SC.map scE), iar (F 21) 260 fr, iar (F 31) 64 (hs.map (·.1)), iar (F 32) 64 (hs.map (·.2)), iar (F 34) 400 tp, iar (F 36) 300 an] h := lst_c (f := rdve) (x := (d, (dsN D.length a l))) D.length (by omega) hL
        rw [adD_set he (dsN D.length a l)] at hL
        have hL : stars [lst rdve (DL.set D.length (d, (dsN D.length a l))), pt m (.inr (13, moF F (upN (upN (mW (tp, an, D, (fr, wv, hs), (v, RQ, RS, SC, er, mb), ck) th AN.length lt lf) 0 0) 2 (D.length + 1)) (decide (wv 5 ≠ 0)))), pt (F 1) (.inl (6, 6, .inr (.inr (.inr (.inr (adD (DL.set D.length (d, (dsN D.length a l))))))))), iar (F 3) 300 AN, iar (F 5) 260 PD, rst (F 6) er (v 20) (mb 1) (mb 2), rrw (F 12) 16 3 (RQ.map rqE), rrw (F 13) 32 5 (RS.map rsE), rrw (F 14) 8 4 (SC.map scE), iar (F 21) 260 fr, iar (F 31) 64 (hs.map (·.1)), iar (F 32) 64 (hs.map (·.2)), iar (F 34) 400 tp, iar (F 36) 300 an] h := hL
        have eo : moF F (upN (upN (mW (tp, an, D, (fr, wv, hs), (v, RQ, RS, SC, er, mb), ck) th AN.length lt lf) 0 0) 2 (D.length + 1)) (decide (wv 5 ≠ 0)) = moF F (upN (upN (mW (tp, an, D, (fr, wv, hs), (v, RQ, RS, SC, er, mb), ck) th AN.length lt lf) 0 0) 2 (D ++ [(dsN D.length a l)]).length) (decide (wv 5 ≠ 0)) := by rw [List.length_append]; rfl
        rw [eo] at hL
        have hL : stars [lst rdve (DL.set D.length (d, (dsN D.length a l))), pt m (.inr (13, moF F (upN (upN (mW (tp, an, D, (fr, wv, hs), (v, RQ, RS, SC, er, mb), ck) th AN.length lt lf) 0 0) 2 (D ++ [(dsN D.length a l)]).length) (decide (wv 5 ≠ 0)))), pt (F 1) (.inl (6, 6, .inr (.inr (.inr (.inr (adD (DL.set D.length (d, (dsN D.length a l))))))))), iar (F 3) 300 AN, iar (F 5) 260 PD, rst (F 6) er (v 20) (mb 1) (mb 2), rrw (F 12) 16 3 (RQ.map rqE), rrw (F 13) 32 5 (RS.map rsE), rrw (F 14) 8 4 (SC.map scE), iar (F 21) 260 fr, iar (F 31) 64 (hs.map (·.1)), iar (F 32) 64 (hs.map (·.2)), iar (F 34) 400 tp, iar (F 36) 300 an] h := hL
        exact e_iret dX15_device_111 rfl (by omega) (by omega) (⟨_, ⟨by rw [dvR, if_pos (show dvC (tp, an, D, (fr, wv, hs), (v, RQ, RS, SC, er, mb), ck) (nI a) (nI l) = true by show (decide (D.length < 6) && (inI _ _ _ && (inI _ _ _ && !tkD D (nI a).toNatClampNeg))) = _; rw [decide_eq_true (show D.length < 6 by omega), k22, k33, ac, tkD_f hno]; rfl)], by rw [dvG, if_pos (show dvC (tp, an, D, (fr, wv, hs), (v, RQ, RS, SC, er, mb), ck) (nI a) (nI l) = true by show (decide (D.length < 6) && (inI _ _ _ && (inI _ _ _ && !tkD D (nI a).toNatClampNeg))) = _; rw [decide_eq_true (show D.length < 6 by omega), k22, k33, ac, tkD_f hno]; rfl), ac, lc]⟩, rfo_c (g := (tp, an, D ++ [(dsN D.length a l)], (fr, wv, hs), (v, RQ, RS, SC, er, mb), ck)) (th := 0) (F := F) (lt := lt) (lf := lf) (AN := AN) (PD := PD) (DL := (DL.set D.length (d, (dsN D.length a l)))) (X := []) (rfC_app (s1 := (dsN D.length a l)) hc (by show D.length < 6; omega)) (stars_ixn hL 14 rfl [1, 2, 0, 3, 4, 5, 6, 7, 8, 9, 10, 11, 12, 13] (by decide) rfl)⟩)
      · have k33 := jb_ne_f c33
        refine e_iconst 37 (v := (-1)) dX15_device_36 rfl (by decide) ?_
        exact e_iret dX15_device_37 rfl (by omega) (by omega) (⟨_, ⟨by rw [dvR, if_neg (show ¬ dvC (tp, an, D, (fr, wv, hs), (v, RQ, RS, SC, er, mb), ck) (nI a) x2 = true by rw [show dvC (tp, an, D, (fr, wv, hs), (v, RQ, RS, SC, er, mb), ck) (nI a) x2 = false by show (decide (D.length < 6) && (inI _ _ _ && (inI _ _ _ && _))) = _; rw [k33, Bool.false_and, Bool.and_false, Bool.and_false]]; decide)], by rw [dvG, if_neg (show ¬ dvC (tp, an, D, (fr, wv, hs), (v, RQ, RS, SC, er, mb), ck) (nI a) x2 = true by rw [show dvC (tp, an, D, (fr, wv, hs), (v, RQ, RS, SC, er, mb), ck) (nI a) x2 = false by show (decide (D.length < 6) && (inI _ _ _ && (inI _ _ _ && _))) = _; rw [k33, Bool.false_and, Bool.and_false, Bool.and_false]]; decide)]⟩, rfo_c (g := (tp, an, D, (fr, wv, hs), (v, RQ, RS, SC, er, mb), ck)) (th := 0) (F := F) (lt := lt) (lf := lf) (AN := AN) (PD := PD) (DL := DL) (X := []) hc (stars_ixn hL 14 rfl [0, 1, 2, 3, 4, 5, 6, 7, 8, 9, 10, 11, 12, 13] (by decide) rfl)⟩)
