/-! the reference: its public methods on a device, first part -/
theorem dIn_nat {n : Nat} {x : Int32} (hn : n < 2 ^ 30) (h : dIn n x = true) : ∃ k, x = nI k ∧ k < n := inS_nat hn (by rw [dIn_in hn]; exact h)
theorem in3 {x : Int32} : inI x (nI 0) (nI 3) = dIn 4 x := dIn_in (n := 4) (by decide)
theorem rfC_len {g : GS} {DL : List (Nat × DS)} {lt lf : Nat} (hc : rfC g DL lt lf) : DL.length = 6 := by
  have y := congrArg List.length hc.1
  rw [List.length_map, List.length_append, List.length_replicate] at y
  have := hc.2.1
  omega
theorem rfC_at {g : GS} {DL : List (Nat × DS)} {lt lf i d : Nat} {s : DS} (hc : rfC g DL lt lf) (he : DL[i]? = some (d, s)) (hi : i < g.2.2.1.length) : g.2.2.1[i]? = some s := by
  have h1 : (DL.map (·.2))[i]? = some s := by rw [List.getElem?_map, he]; rfl
  rw [hc.1, List.getElem?_append_left hi] at h1
  exact h1
theorem rfC_set {g : GS} {DL : List (Nat × DS)} {lt lf i d : Nat} {s s1 : DS} (hc : rfC g DL lt lf) (he : DL[i]? = some (d, s)) (hi : i < g.2.2.1.length) : rfC (g.1, g.2.1, g.2.2.1.set i s1, g.2.2.2) (DL.set i (d, s1)) lt lf := by
  refine ⟨?_, ?_, hc.2.2⟩
  · rw [List.map_set, hc.1, List.set_append_left _ _ hi]
    show _ = g.2.2.1.set i s1 ++ List.replicate (6 - (g.2.2.1.set i s1).length) dsZ
    rw [List.length_set]
  · show (g.2.2.1.set i s1).length ≤ 6
    rw [List.length_set]
    exact hc.2.1
theorem gD_of {g : GS} {i : Nat} {s : DS} (h : g.2.2.1[i]? = some s) : gD g i = s := by
  show (g.2.2.1[i]?).getD ds0 = s
  rw [h]
  rfl
theorem lst_V {L : List sA} (j : Nat) {DL : List (Nat × DS)} {i d : Nat} {s : DS} {h : eH} (hL : stars L h) (hj : L[j]? = some (lst rdve DL)) (he : DL[i]? = some (d, s)) : rdV d s h := by
  obtain ⟨h1, k, e⟩ := stars_part L j hL hj
  exact (rdv_V (DL.map rdve) i (show stars (DL.map rdve) h1 from k) (by rw [List.getElem?_map, he]; rfl)).up e
theorem rev_getD {r : List Nat} {n : Nat} (h : n < r.length) : r.reverse.getD n 0 = r.getD (r.length - 1 - n) 0 := by
  simp only [List.getD, List.getElem?_reverse h]
/-- what place answers -/
def plV (s : DS) (k : Nat) (a : Int32) : Int32 := if plI (dF s k) (dL s k).length a 1 then nI (a.toNatClampNeg - dF s k) else -1
theorem u_placeI {d k : Nat} {a : Int32} {s : DS} {h : eH} (hv : rdV d s h) (he : okE s) (hk : k < 4) : PC mX12_place [.ref d, .int (nI k), .int a] h (some (.int (plV s k a))) 0 0 := by
  by_cases ha : a < 0
  · have e : plV s k a = -1 := by rw [plV, plI_f (Or.inr (Or.inl ha))]; rfl
    rw [e]
    exact u_X12_placeN hv he hk ha
  · obtain ⟨x, rfl, hx⟩ : ∃ x, a = nI x ∧ x < 2 ^ 31 := by
      have h0 := Int32.not_lt.mp ha
      rw [Int32.le_iff_toInt_le] at h0
      have h1 : (0 : Int32).toInt = 0 := rfl
      have h2 := a.toInt_lt
      refine ⟨a.toInt.toNat, ?_, by omega⟩
      apply Int32.toInt_inj.mp
      rw [nI_toInt (by omega)]
      omega
    have e : plV s k (nI x) = if dF s k ≤ x ∧ x < dF s k + (dL s k).length then nI (x - dF s k) else -1 := by
      rw [plV]
      by_cases z : dF s k ≤ x ∧ x < dF s k + (dL s k).length
      · rw [if_pos z, if_pos (plI_t hx (by decide) z.1 (by omega)), nI_clamp hx]
      · rw [if_neg z, if_neg (by rw [plI_f (Or.inr (Or.inr (by rw [nI_clamp hx]; omega)))]; decide)]
    rw [e]
    exact u_X12_place hv he hk hx
set_option maxRecDepth 20000 in
set_option maxHeartbeats 2000000 in
theorem u_isDev {m n : Nat} {F w : Nat → Nat} {bg : Bool} {x : Int32} {h : eH} (ho : h m = some (.inr (13, moF F w bg))) (hw : w 2 = n) (hn : n < 2 ^ 30) : PC mX15_isDevice [.ref m, .int x] h (some (.int (bI (dIn n x)))) 1 25 := by
  refine PC.mk 0 (ls := [some (.ref m), some (.int x)]) rfl rfl (Nat.le_of_ble_eq_true rfl) rfl ?_
  refine e_iload_n 1 dX15_isDevice_0 rfl rfl ?_
  refine e_iconst 2 (v := (nI 0)) dX15_isDevice_1 rfl (by decide) ?_
  refine e_aload_n 3 dX15_isDevice_2 rfl rfl ?_
  refine e_get 6 (v := (.int (nI n))) dX15_isDevice_3 rfl fl_X15_78_13 ho (by rw [← hw]; rfl) ?_
  refine e_iconst 7 (v := (nI 1)) dX15_isDevice_6 rfl (by decide) ?_
  refine e_isub 8 (v := ((nI n) - (nI 1))) dX15_isDevice_7 rfl rfl ?_
  refine u_callS 11 dX15_isDevice_8 rfl cs_X15_81 u_inI rfl rfl (Nat.le_of_ble_eq_true rfl) (by decide) ⟨by omega, by omega⟩ ?_
  exact e_zret dX15_isDevice_11 rfl (bI_01 _) (by omega) (by omega) (⟨by rw [dIn_in hn], rfl⟩)
set_option maxRecDepth 20000 in
set_option maxHeartbeats 2000000 in
theorem k_X15_busy {m th : Nat} {tp an fr : List Nat} {D : List DS} {wv : Nat → Nat} {hs : List (Nat × Nat)} {v : Nat → Nat} {RQ : List RQE} {RS : List RSE} {SC : List SCE} {er : List Nat} {mb : Nat → Bool} {ck : Nat} (hE : ∀ s ∈ D, okD s ∧ okE s) {x1 x2 : Int32} : CA mX15_busy [.ref m, .int x1, .int x2] [rfo m (tp, an, D, (fr, wv, hs), (v, RQ, RS, SC, er, mb), ck) th] (fun r K => r = some (.int (bI (buC (tp, an, D, (fr, wv, hs), (v, RQ, RS, SC, er, mb), ck) x1 x2))) ∧ K = [rfo m (buG (tp, an, D, (fr, wv, hs), (v, RQ, RS, SC, er, mb), ck) x1 x2) 0]) 2 60 0 0 := by
  refine CA.mk 0 (ls := [some (.ref m), some (.int x1), some (.int x2)]) rfl rfl (Nat.le_of_ble_eq_true rfl) rfl (fun h hL => ?_)
  obtain ⟨F, lt, lf, AN, PD, DL, hc, hL⟩ := rfo_o hL
  have hL : stars [pt m (.inr (13, moF F (mW (tp, an, D, (fr, wv, hs), (v, RQ, RS, SC, er, mb), ck) th AN.length lt lf) (decide (wv 5 ≠ 0)))), pt (F 1) (.inl (6, 6, .inr (.inr (.inr (.inr (adD DL)))))), lst rdve DL, iar (F 3) 300 AN, iar (F 5) 260 PD, rst (F 6) er (v 20) (mb 1) (mb 2), rrw (F 12) 16 3 (RQ.map rqE), rrw (F 13) 32 5 (RS.map rsE), rrw (F 14) 8 4 (SC.map scE), iar (F 21) 260 fr, iar (F 31) 64 (hs.map (·.1)), iar (F 32) 64 (hs.map (·.2)), iar (F 34) 400 tp, iar (F 36) 300 an] h := hL
  have ltp := (iar_V _ 12 hL rfl).le
  have lan := (iar_V _ 13 hL rfl).le
  have lfr := (iar_V _ 9 hL rfl).le
  have h6 : D.length ≤ 6 := hc.2.1
  have hl9 := rfC_len hc
  refine e_aload_n 1 dX15_busy_0 rfl rfl ?_
  refine e_iconst 2 (v := (nI 0)) dX15_busy_1 rfl (by decide) ?_
  refine p_put 5 hL 0 (fs' := moF F (upN (mW (tp, an, D, (fr, wv, hs), (v, RQ, RS, SC, er, mb), ck) th AN.length lt lf) 0 0) (decide (wv 5 ≠ 0))) (L' := [pt m (.inr (13, moF F (upN (mW (tp, an, D, (fr, wv, hs), (v, RQ, RS, SC, er, mb), ck) th AN.length lt lf) 0 0) (decide (wv 5 ≠ 0)))), pt (F 1) (.inl (6, 6, .inr (.inr (.inr (.inr (adD DL)))))), lst rdve DL, iar (F 3) 300 AN, iar (F 5) 260 PD, rst (F 6) er (v 20) (mb 1) (mb 2), rrw (F 12) 16 3 (RQ.map rqE), rrw (F 13) 32 5 (RS.map rsE), rrw (F 14) 8 4 (SC.map scE), iar (F 21) 260 fr, iar (F 31) 64 (hs.map (·.1)), iar (F 32) 64 (hs.map (·.2)), iar (F 34) 400 tp, iar (F 36) 300 an]) rfl rfl dX15_busy_2 rfl fp_X15_73_13 (Or.inl rfl) (Nat.le_of_ble_eq_true rfl) rfl rfl rfl (fun h hL => ?_)
  refine e_aload_n 6 dX15_busy_5 rfl rfl ?_
  refine e_iload_n 7 dX15_busy_6 rfl rfl ?_
  refine u_callV 10 dX15_busy_7 rfl cv_X15_435 (stars_at _ 0 hL rfl) (u_isDev (n := D.length) (stars_at _ 0 hL rfl) rfl (by omega)) rfl rfl (Nat.le_of_ble_eq_true rfl) (by decide) ⟨by omega, by omega⟩ ?_
  refine e_if_eq 23 13 dX15_busy_10 rfl rfl (fun c10 => ?_) (fun c10 => ?_)
  · have k10 := jb_eq_t c10
    refine e_iconst 24 (v := (nI 0)) dX15_busy_23 rfl (by decide) ?_
    exact e_zret dX15_busy_24 rfl (Or.inl (by decide)) (by omega) (by omega) (⟨_, ⟨by rw [show buC (tp, an, D, (fr, wv, hs), (v, RQ, RS, SC, er, mb), ck) x1 x2 = false by show (dIn D.length _ && inI _ _ _) = _; rw [k10]; rfl]; rfl, by rw [buG, if_neg (show ¬ buC (tp, an, D, (fr, wv, hs), (v, RQ, RS, SC, er, mb), ck) x1 x2 = true by rw [show buC (tp, an, D, (fr, wv, hs), (v, RQ, RS, SC, er, mb), ck) x1 x2 = false by show (dIn D.length _ && inI _ _ _) = _; rw [k10]; rfl]; decide)]⟩, rfo_c (g := (tp, an, D, (fr, wv, hs), (v, RQ, RS, SC, er, mb), ck)) (th := 0) (F := F) (lt := lt) (lf := lf) (AN := AN) (PD := PD) (DL := DL) (X := []) hc (stars_ixn hL 14 rfl [0, 1, 2, 3, 4, 5, 6, 7, 8, 9, 10, 11, 12, 13] (by decide) rfl)⟩)
  · have k10 := jb_eq_f c10
    obtain ⟨i, rfl, hi⟩ := dIn_nat (by omega) k10
    have ic : (nI i).toNatClampNeg = i := nI_clamp (by omega)
    obtain ⟨⟨d, s⟩, he⟩ : ∃ e, DL[i]? = some e := ⟨_, List.getElem?_eq_getElem (show i < DL.length by omega)⟩
    have hsD : D[i]? = some s := rfC_at hc he hi
    have hg : gD (tp, an, D, (fr, wv, hs), (v, RQ, RS, SC, er, mb), ck) i = s := gD_of hsD
    obtain ⟨hok, hoe⟩ := hE s (List.mem_of_getElem? hsD)
    refine e_iload_n 14 dX15_busy_13 rfl rfl ?_
    refine e_iconst 15 (v := (nI 0)) dX15_busy_14 rfl (by decide) ?_
    refine e_bipush 17 (v := (nI 9)) dX15_busy_15 rfl (by decide) ?_
    refine u_callS 20 dX15_busy_17 rfl cs_X15_81 u_inI rfl rfl (Nat.le_of_ble_eq_true rfl) (by decide) ⟨by omega, by omega⟩ ?_
    refine e_if_ne 25 23 dX15_busy_20 rfl rfl (fun c20 => ?_) (fun c20 => ?_)
    · have k20 := jb_ne_t c20
      obtain ⟨n, rfl, na, nb⟩ := inI_nat (by first | decide | omega) (by first | decide | omega) k20
      have nc : (nI n).toNatClampNeg = n := nI_clamp (by omega)
      have hL : stars [lst rdve DL, pt m (.inr (13, moF F (upN (mW (tp, an, D, (fr, wv, hs), (v, RQ, RS, SC, er, mb), ck) th AN.length lt lf) 0 0) (decide (wv 5 ≠ 0)))), pt (F 1) (.inl (6, 6, .inr (.inr (.inr (.inr (adD DL)))))), iar (F 3) 300 AN, iar (F 5) 260 PD, rst (F 6) er (v 20) (mb 1) (mb 2), rrw (F 12) 16 3 (RQ.map rqE), rrw (F 13) 32 5 (RS.map rsE), rrw (F 14) 8 4 (SC.map scE), iar (F 21) 260 fr, iar (F 31) 64 (hs.map (·.1)), iar (F 32) 64 (hs.map (·.2)), iar (F 34) 400 tp, iar (F 36) 300 an] h := stars_ixn hL 14 rfl [2, 0, 1, 3, 4, 5, 6, 7, 8, 9, 10, 11, 12, 13] (by decide) rfl
      have hL : stars [rdv d s, lst rdve (DL.eraseIdx i), pt m (.inr (13, moF F (upN (mW (tp, an, D, (fr, wv, hs), (v, RQ, RS, SC, er, mb), ck) th AN.length lt lf) 0 0) (decide (wv 5 ≠ 0)))), pt (F 1) (.inl (6, 6, .inr (.inr (.inr (.inr (adD DL)))))), iar (F 3) 300 AN, iar (F 5) 260 PD, rst (F 6) er (v 20) (mb 1) (mb 2), rrw (F 12) 16 3 (RQ.map rqE), rrw (F 13) 32 5 (RS.map rsE), rrw (F 14) 8 4 (SC.map scE), iar (F 21) 260 fr, iar (F 31) 64 (hs.map (·.1)), iar (F 32) 64 (hs.map (·.2)), iar (F 34) 400 tp, iar (F 36) 300 an] h := lst_o i he hL
      obtain ⟨A, hL⟩ := rdv_on hL
      have hL : stars [pt d (.inr (10, rdF A s)), rRn A s, lst rdve (DL.eraseIdx i), pt m (.inr (13, moF F (upN (mW (tp, an, D, (fr, wv, hs), (v, RQ, RS, SC, er, mb), ck) th AN.length lt lf) 0 0) (decide (wv 5 ≠ 0)))), pt (F 1) (.inl (6, 6, .inr (.inr (.inr (.inr (adD DL)))))), iar (F 3) 300 AN, iar (F 5) 260 PD, rst (F 6) er (v 20) (mb 1) (mb 2), rrw (F 12) 16 3 (RQ.map rqE), rrw (F 13) 32 5 (RS.map rsE), rrw (F 14) 8 4 (SC.map scE), iar (F 21) 260 fr, iar (F 31) 64 (hs.map (·.1)), iar (F 32) 64 (hs.map (·.2)), iar (F 34) 400 tp, iar (F 36) 300 an] h := hL
      refine e_aload_n 26 dX15_busy_25 rfl rfl ?_
      refine e_get 29 (v := (.ref (F 1))) dX15_busy_26 rfl fl_X15_9_13 (stars_at _ 3 hL rfl) rfl ?_
      refine e_iload_n 30 dX15_busy_29 rfl rfl ?_
      refine p_aaldD 31 hL 4 (v := d) (k := i) rfl (adD_at he) dX15_busy_30 rfl (by omega) ?_
      refine e_iload_n 32 dX15_busy_31 rfl rfl ?_
      refine p_put 35 hL 0 (fs' := (rdF A s).set 34 (.int (nI n))) (L' := [pt d (.inr (10, (rdF A s).set 34 (.int (nI n)))), rRn A s, lst rdve (DL.eraseIdx i), pt m (.inr (13, moF F (upN (mW (tp, an, D, (fr, wv, hs), (v, RQ, RS, SC, er, mb), ck) th AN.length lt lf) 0 0) (decide (wv 5 ≠ 0)))), pt (F 1) (.inl (6, 6, .inr (.inr (.inr (.inr (adD DL)))))), iar (F 3) 300 AN, iar (F 5) 260 PD, rst (F 6) er (v 20) (mb 1) (mb 2), rrw (F 12) 16 3 (RQ.map rqE), rrw (F 13) 32 5 (RS.map rsE), rrw (F 14) 8 4 (SC.map scE), iar (F 21) 260 fr, iar (F 31) 64 (hs.map (·.1)), iar (F 32) 64 (hs.map (·.2)), iar (F 34) 400 tp, iar (F 36) 300 an]) rfl rfl dX15_busy_32 rfl fp_X15_147_10 (Or.inl rfl) (Nat.le_of_ble_eq_true rfl) rfl rfl rfl (fun h hL => ?_)
      have hL : stars [rdv d (upN s.1 18 n, s.2), lst rdve (DL.eraseIdx i), pt m (.inr (13, moF F (upN (mW (tp, an, D, (fr, wv, hs), (v, RQ, RS, SC, er, mb), ck) th AN.length lt lf) 0 0) (decide (wv 5 ≠ 0)))), pt (F 1) (.inl (6, 6, .inr (.inr (.inr (.inr (adD DL)))))), iar (F 3) 300 AN, iar (F 5) 260 PD, rst (F 6) er (v 20) (mb 1) (mb 2), rrw (F 12) 16 3 (RQ.map rqE), rrw (F 13) 32 5 (RS.map rsE), rrw (F 14) 8 4 (SC.map scE), iar (F 21) 260 fr, iar (F 31) 64 (hs.map (·.1)), iar (F 32) 64 (hs.map (·.2)), iar (F 34) 400 tp, iar (F 36) 300 an] h := rdv_cn (s := s) (A := A) (fs' := (rdF A s).set 34 (.int (nI n))) (v := upN s.1 18 n) (B := dB s) rfl rfl hL
      have hL : stars [lst rdve (DL.set i (d, (upN s.1 18 n, s.2))), pt m (.inr (13, moF F (upN (mW (tp, an, D, (fr, wv, hs), (v, RQ, RS, SC, er, mb), ck) th AN.length lt lf) 0 0) (decide (wv 5 ≠ 0)))), pt (F 1) (.inl (6, 6, .inr (.inr (.inr (.inr (adD DL)))))), iar (F 3) 300 AN, iar (F 5) 260 PD, rst (F 6) er (v 20) (mb 1) (mb 2), rrw (F 12) 16 3 (RQ.map rqE), rrw (F 13) 32 5 (RS.map rsE), rrw (F 14) 8 4 (SC.map scE), iar (F 21) 260 fr, iar (F 31) 64 (hs.map (·.1)), iar (F 32) 64 (hs.map (·.2)), iar (F 34) 400 tp, iar (F 36) 300 an] h := lst_c (f := rdve) (x := (d, (upN s.1 18 n, s.2))) i (by omega) hL
      rw [adD_set he (upN s.1 18 n, s.2)] at hL
      have hL : stars [lst rdve (DL.set i (d, (upN s.1 18 n, s.2))), pt m (.inr (13, moF F (upN (mW (tp, an, D, (fr, wv, hs), (v, RQ, RS, SC, er, mb), ck) th AN.length lt lf) 0 0) (decide (wv 5 ≠ 0)))), pt (F 1) (.inl (6, 6, .inr (.inr (.inr (.inr (adD (DL.set i (d, (upN s.1 18 n, s.2))))))))), iar (F 3) 300 AN, iar (F 5) 260 PD, rst (F 6) er (v 20) (mb 1) (mb 2), rrw (F 12) 16 3 (RQ.map rqE), rrw (F 13) 32 5 (RS.map rsE), rrw (F 14) 8 4 (SC.map scE), iar (F 21) 260 fr, iar (F 31) 64 (hs.map (·.1)), iar (F 32) 64 (hs.map (·.2)), iar (F 34) 400 tp, iar (F 36) 300 an] h := hL
      have eo : moF F (upN (mW (tp, an, D, (fr, wv, hs), (v, RQ, RS, SC, er, mb), ck) th AN.length lt lf) 0 0) (decide (wv 5 ≠ 0)) = moF F (upN (upN (mW (tp, an, D, (fr, wv, hs), (v, RQ, RS, SC, er, mb), ck) th AN.length lt lf) 0 0) 2 (D.set i (upN s.1 18 n, s.2)).length) (decide (wv 5 ≠ 0)) := by rw [List.length_set]; rfl
      rw [eo] at hL
      have hL : stars [lst rdve (DL.set i (d, (upN s.1 18 n, s.2))), pt m (.inr (13, moF F (upN (upN (mW (tp, an, D, (fr, wv, hs), (v, RQ, RS, SC, er, mb), ck) th AN.length lt lf) 0 0) 2 (D.set i (upN s.1 18 n, s.2)).length) (decide (wv 5 ≠ 0)))), pt (F 1) (.inl (6, 6, .inr (.inr (.inr (.inr (adD (DL.set i (d, (upN s.1 18 n, s.2))))))))), iar (F 3) 300 AN, iar (F 5) 260 PD, rst (F 6) er (v 20) (mb 1) (mb 2), rrw (F 12) 16 3 (RQ.map rqE), rrw (F 13) 32 5 (RS.map rsE), rrw (F 14) 8 4 (SC.map scE), iar (F 21) 260 fr, iar (F 31) 64 (hs.map (·.1)), iar (F 32) 64 (hs.map (·.2)), iar (F 34) 400 tp, iar (F 36) 300 an] h := hL
      refine e_iconst 36 (v := (nI 1)) dX15_busy_35 rfl (by decide) ?_
      exact e_zret dX15_busy_36 rfl (Or.inr (by decide)) (by omega) (by omega) (⟨_, ⟨by rw [show buC (tp, an, D, (fr, wv, hs), (v, RQ, RS, SC, er, mb), ck) (nI i) (nI n) = true by show (dIn D.length _ && inI _ _ _) = _; rw [k10, k20]; rfl]; rfl, by rw [buG, if_pos (show buC (tp, an, D, (fr, wv, hs), (v, RQ, RS, SC, er, mb), ck) (nI i) (nI n) = true by show (dIn D.length _ && inI _ _ _) = _; rw [k10, k20]; rfl), ic, nc, hg]⟩, rfo_c (g := (tp, an, D.set i (upN s.1 18 n, s.2), (fr, wv, hs), (v, RQ, RS, SC, er, mb), ck)) (th := 0) (F := F) (lt := lt) (lf := lf) (AN := AN) (PD := PD) (DL := (DL.set i (d, (upN s.1 18 n, s.2)))) (X := []) (rfC_set (s1 := (upN s.1 18 n, s.2)) hc he hi) (stars_ixn hL 14 rfl [1, 2, 0, 3, 4, 5, 6, 7, 8, 9, 10, 11, 12, 13] (by decide) rfl)⟩)
    · have k20 := jb_ne_f c20
      refine e_iconst 24 (v := (nI 0)) dX15_busy_23 rfl (by decide) ?_
      exact e_zret dX15_busy_24 rfl (Or.inl (by decide)) (by omega) (by omega) (⟨_, ⟨by rw [show buC (tp, an, D, (fr, wv, hs), (v, RQ, RS, SC, er, mb), ck) (nI i) x2 = false by show (dIn D.length _ && inI _ _ _) = _; rw [k10, k20]; rfl]; rfl, by rw [buG, if_neg (show ¬ buC (tp, an, D, (fr, wv, hs), (v, RQ, RS, SC, er, mb), ck) (nI i) x2 = true by rw [show buC (tp, an, D, (fr, wv, hs), (v, RQ, RS, SC, er, mb), ck) (nI i) x2 = false by show (dIn D.length _ && inI _ _ _) = _; rw [k10, k20]; rfl]; decide)]⟩, rfo_c (g := (tp, an, D, (fr, wv, hs), (v, RQ, RS, SC, er, mb), ck)) (th := 0) (F := F) (lt := lt) (lf := lf) (AN := AN) (PD := PD) (DL := DL) (X := []) hc (stars_ixn hL 14 rfl [0, 1, 2, 3, 4, 5, 6, 7, 8, 9, 10, 11, 12, 13] (by decide) rfl)⟩)
set_option maxRecDepth 20000 in
set_option maxHeartbeats 2000000 in
theorem k_X15_event {m th : Nat} {tp an fr : List Nat} {D : List DS} {wv : Nat → Nat} {hs : List (Nat × Nat)} {v : Nat → Nat} {RQ : List RQE} {RS : List RSE} {SC : List SCE} {er : List Nat} {mb : Nat → Bool} {ck : Nat} (hE : ∀ s ∈ D, okD s ∧ okE s) {x1 x2 : Int32} : CA mX15_event [.ref m, .int x1, .int x2] [rfo m (tp, an, D, (fr, wv, hs), (v, RQ, RS, SC, er, mb), ck) th] (fun r K => r = some (.int (evR (tp, an, D, (fr, wv, hs), (v, RQ, RS, SC, er, mb), ck) x1 x2)) ∧ K = [rfo m (tp, an, D, (fr, wv, hs), (v, RQ, RS, SC, er, mb), ck) 0]) 2 60 0 0 := by
  refine CA.mk 0 (ls := [some (.ref m), some (.int x1), some (.int x2)]) rfl rfl (Nat.le_of_ble_eq_true rfl) rfl (fun h hL => ?_)
  obtain ⟨F, lt, lf, AN, PD, DL, hc, hL⟩ := rfo_o hL
  have hL : stars [pt m (.inr (13, moF F (mW (tp, an, D, (fr, wv, hs), (v, RQ, RS, SC, er, mb), ck) th AN.length lt lf) (decide (wv 5 ≠ 0)))), pt (F 1) (.inl (6, 6, .inr (.inr (.inr (.inr (adD DL)))))), lst rdve DL, iar (F 3) 300 AN, iar (F 5) 260 PD, rst (F 6) er (v 20) (mb 1) (mb 2), rrw (F 12) 16 3 (RQ.map rqE), rrw (F 13) 32 5 (RS.map rsE), rrw (F 14) 8 4 (SC.map scE), iar (F 21) 260 fr, iar (F 31) 64 (hs.map (·.1)), iar (F 32) 64 (hs.map (·.2)), iar (F 34) 400 tp, iar (F 36) 300 an] h := hL
  have ltp := (iar_V _ 12 hL rfl).le
  have lan := (iar_V _ 13 hL rfl).le
  have lfr := (iar_V _ 9 hL rfl).le
  have h6 : D.length ≤ 6 := hc.2.1
  have hl9 := rfC_len hc
  refine e_aload_n 1 dX15_event_0 rfl rfl ?_
  refine e_iconst 2 (v := (nI 0)) dX15_event_1 rfl (by decide) ?_
  refine p_put 5 hL 0 (fs' := moF F (upN (mW (tp, an, D, (fr, wv, hs), (v, RQ, RS, SC, er, mb), ck) th AN.length lt lf) 0 0) (decide (wv 5 ≠ 0))) (L' := [pt m (.inr (13, moF F (upN (mW (tp, an, D, (fr, wv, hs), (v, RQ, RS, SC, er, mb), ck) th AN.length lt lf) 0 0) (decide (wv 5 ≠ 0)))), pt (F 1) (.inl (6, 6, .inr (.inr (.inr (.inr (adD DL)))))), lst rdve DL, iar (F 3) 300 AN, iar (F 5) 260 PD, rst (F 6) er (v 20) (mb 1) (mb 2), rrw (F 12) 16 3 (RQ.map rqE), rrw (F 13) 32 5 (RS.map rsE), rrw (F 14) 8 4 (SC.map scE), iar (F 21) 260 fr, iar (F 31) 64 (hs.map (·.1)), iar (F 32) 64 (hs.map (·.2)), iar (F 34) 400 tp, iar (F 36) 300 an]) rfl rfl dX15_event_2 rfl fp_X15_73_13 (Or.inl rfl) (Nat.le_of_ble_eq_true rfl) rfl rfl rfl (fun h hL => ?_)
  refine e_aload_n 6 dX15_event_5 rfl rfl ?_
  refine e_iload_n 7 dX15_event_6 rfl rfl ?_
  refine u_callV 10 dX15_event_7 rfl cv_X15_435 (stars_at _ 0 hL rfl) (u_isDev (n := D.length) (stars_at _ 0 hL rfl) rfl (by omega)) rfl rfl (Nat.le_of_ble_eq_true rfl) (by decide) ⟨by omega, by omega⟩ ?_
  refine e_if_eq 46 13 dX15_event_10 rfl rfl (fun c10 => ?_) (fun c10 => ?_)
  · have k10 := jb_eq_t c10
    refine e_iconst 47 (v := (-1)) dX15_event_46 rfl (by decide) ?_
    exact e_iret dX15_event_47 rfl (by omega) (by omega) (⟨_, ⟨by rw [evR, show (dIn D.length x1 && dIn (dL (gD (tp, an, D, (fr, wv, hs), (v, RQ, RS, SC, er, mb), ck) x1.toNatClampNeg) 5).length x2) = false by rw [k10]; rfl]; rfl, rfl⟩, rfo_c (g := (tp, an, D, (fr, wv, hs), (v, RQ, RS, SC, er, mb), ck)) (th := 0) (F := F) (lt := lt) (lf := lf) (AN := AN) (PD := PD) (DL := DL) (X := []) hc (stars_ixn hL 14 rfl [0, 1, 2, 3, 4, 5, 6, 7, 8, 9, 10, 11, 12, 13] (by decide) rfl)⟩)
  · have k10 := jb_eq_f c10
    obtain ⟨i, rfl, hi⟩ := dIn_nat (by omega) k10
    have ic : (nI i).toNatClampNeg = i := nI_clamp (by omega)
    obtain ⟨⟨d, s⟩, he⟩ : ∃ e, DL[i]? = some e := ⟨_, List.getElem?_eq_getElem (show i < DL.length by omega)⟩
    have hsD : D[i]? = some s := rfC_at hc he hi
    have hg : gD (tp, an, D, (fr, wv, hs), (v, RQ, RS, SC, er, mb), ck) i = s := gD_of hsD
    obtain ⟨hok, hoe⟩ := hE s (List.mem_of_getElem? hsD)
    have l5 : (dL s 5).length ≤ 64 := hoe.2.2.1.2.1
    refine e_iload_n 14 dX15_event_13 rfl rfl ?_
    refine e_iconst 15 (v := (nI 0)) dX15_event_14 rfl (by decide) ?_
    refine e_aload_n 16 dX15_event_15 rfl rfl ?_
    refine e_get 19 (v := (.ref (F 1))) dX15_event_16 rfl fl_X15_9_13 (stars_at _ 0 hL rfl) rfl ?_
    refine e_iload_n 20 dX15_event_19 rfl rfl ?_
    refine p_aaldD 21 hL 1 (v := d) (k := i) rfl (adD_at he) dX15_event_20 rfl (by omega) ?_
    obtain ⟨A20, v20_0, v20_1, v20_2, v20_3, v20_4, v20_5, v20_6, v20_7, v20_8, v20_9, v20_10, v20_11, v20_12, v20_13, v20_14, v20_15, v20_16, v20_17, v20_18, v20_19, v20_20, v20_21⟩ := lst_V 2 hL rfl he
    refine e_get 24 (v := (.int (nI (dL s 5).length))) dX15_event_21 rfl fl_X15_189_10 v20_0 rfl ?_
    refine e_iconst 25 (v := (nI 1)) dX15_event_24 rfl (by decide) ?_
    refine e_isub 26 (v := ((nI (dL s 5).length) - (nI 1))) dX15_event_25 rfl rfl ?_
    refine u_callS 29 dX15_event_26 rfl cs_X15_81 u_inI rfl rfl (Nat.le_of_ble_eq_true rfl) (by decide) ⟨by omega, by omega⟩ ?_
    refine e_if_eq 46 32 dX15_event_29 rfl rfl (fun c29 => ?_) (fun c29 => ?_)
    · have k29 := jb_eq_t c29
      refine e_iconst 47 (v := (-1)) dX15_event_46 rfl (by decide) ?_
      exact e_iret dX15_event_47 rfl (by omega) (by omega) (⟨_, ⟨by rw [evR, ic, hg, show (dIn D.length (nI i) && dIn (dL s 5).length x2) = false by rw [k10, ← dIn_in (by omega), k29]; rfl]; rfl, rfl⟩, rfo_c (g := (tp, an, D, (fr, wv, hs), (v, RQ, RS, SC, er, mb), ck)) (th := 0) (F := F) (lt := lt) (lf := lf) (AN := AN) (PD := PD) (DL := DL) (X := []) hc (stars_ixn hL 14 rfl [0, 1, 2, 3, 4, 5, 6, 7, 8, 9, 10, 11, 12, 13] (by decide) rfl)⟩)
    · have k29 := jb_eq_f c29
      obtain ⟨n, rfl, nb⟩ := inS_nat (by omega) k29
      have nc : (nI n).toNatClampNeg = n := nI_clamp (by omega)
      refine e_aload_n 33 dX15_event_32 rfl rfl ?_
      refine e_get 36 (v := (.ref (F 1))) dX15_event_33 rfl fl_X15_9_13 (stars_at _ 0 hL rfl) rfl ?_
      refine e_iload_n 37 dX15_event_36 rfl rfl ?_
      refine p_aaldD 38 hL 1 (v := d) (k := i) rfl (adD_at he) dX15_event_37 rfl (by omega) ?_
      refine e_get 41 (v := (.ref (A20 32))) dX15_event_38 rfl fl_X15_192_10 v20_0 rfl ?_
      refine e_iload_n 42 dX15_event_41 rfl rfl ?_
      refine v_iald 43 (r := (dL s 5).reverse) v20_20 (k := n) (x := (((dL s 5).reverse).getD n 0)) dX15_event_42 rfl (by rw [List.length_reverse]; omega) (by omega) rfl ?_
      refine e_goto 47 dX15_event_43 rfl ?_
      exact e_iret dX15_event_47 rfl (by omega) (by omega) (⟨_, ⟨by rw [evR, ic, hg, show (dIn D.length (nI i) && dIn (dL s 5).length (nI n)) = true by rw [k10, ← dIn_in (by omega), k29]; rfl, if_pos rfl, nc, rev_getD (by omega)], rfl⟩, rfo_c (g := (tp, an, D, (fr, wv, hs), (v, RQ, RS, SC, er, mb), ck)) (th := 0) (F := F) (lt := lt) (lf := lf) (AN := AN) (PD := PD) (DL := DL) (X := []) hc (stars_ixn hL 14 rfl [0, 1, 2, 3, 4, 5, 6, 7, 8, 9, 10, 11, 12, 13] (by decide) rfl)⟩)
theorem inI_n {n a b : Nat} (h1 : a ≤ n) (h2 : n ≤ b) (hb : b < 2 ^ 31) : inI (nI n) (nI a) (nI b) = true := by
  simp only [inI, Bool.and_eq_true, decide_eq_true_eq]
  exact ⟨nI_le h1 (by omega), nI_le h2 hb⟩
theorem inI_no {x : Int32} {a b : Nat} (ha : a < 2 ^ 31) (hb : b < 2 ^ 31) (h : x.toInt < a ∨ (b : Int) < x.toInt) : inI x (nI a) (nI b) = false := by
  simp only [inI, Bool.and_eq_false_iff, decide_eq_false_iff_not, Int32.le_iff_toInt_le, nI_toInt ha, nI_toInt hb]
  omega
theorem co_n {s : DS} {n : Nat} (h : n ≤ 8) : coN s n = dC s n := by
  match n, h with
  | 0, _ => rfl
  | 1, _ => rfl
  | 2, _ => rfl
  | 3, _ => rfl
  | 4, _ => rfl
  | 5, _ => rfl
  | 6, _ => rfl
  | 7, _ => rfl
  | 8, _ => rfl
set_option maxRecDepth 20000 in
set_option maxHeartbeats 2000000 in
theorem k_X15_counter {m th : Nat} {tp an fr : List Nat} {D : List DS} {wv : Nat → Nat} {hs : List (Nat × Nat)} {v : Nat → Nat} {RQ : List RQE} {RS : List RSE} {SC : List SCE} {er : List Nat} {mb : Nat → Bool} {ck : Nat} (hE : ∀ s ∈ D, okD s ∧ okE s) {x1 x2 : Int32} : CA mX15_counter [.ref m, .int x1, .int x2] [rfo m (tp, an, D, (fr, wv, hs), (v, RQ, RS, SC, er, mb), ck) th] (fun r K => r = some (.int (coR (tp, an, D, (fr, wv, hs), (v, RQ, RS, SC, er, mb), ck) x1 x2)) ∧ K = [rfo m (tp, an, D, (fr, wv, hs), (v, RQ, RS, SC, er, mb), ck) 0]) 2 60 0 0 := by
  refine CA.mk 1 (ls := [some (.ref m), some (.int x1), some (.int x2), none]) rfl rfl (Nat.le_of_ble_eq_true rfl) rfl (fun h hL => ?_)
  obtain ⟨F, lt, lf, AN, PD, DL, hc, hL⟩ := rfo_o hL
  have hL : stars [pt m (.inr (13, moF F (mW (tp, an, D, (fr, wv, hs), (v, RQ, RS, SC, er, mb), ck) th AN.length lt lf) (decide (wv 5 ≠ 0)))), pt (F 1) (.inl (6, 6, .inr (.inr (.inr (.inr (adD DL)))))), lst rdve DL, iar (F 3) 300 AN, iar (F 5) 260 PD, rst (F 6) er (v 20) (mb 1) (mb 2), rrw (F 12) 16 3 (RQ.map rqE), rrw (F 13) 32 5 (RS.map rsE), rrw (F 14) 8 4 (SC.map scE), iar (F 21) 260 fr, iar (F 31) 64 (hs.map (·.1)), iar (F 32) 64 (hs.map (·.2)), iar (F 34) 400 tp, iar (F 36) 300 an] h := hL
  have ltp := (iar_V _ 12 hL rfl).le
  have lan := (iar_V _ 13 hL rfl).le
  have lfr := (iar_V _ 9 hL rfl).le
  have h6 : D.length ≤ 6 := hc.2.1
  have hl9 := rfC_len hc
  refine e_aload_n 1 dX15_counter_0 rfl rfl ?_
  refine e_iconst 2 (v := (nI 0)) dX15_counter_1 rfl (by decide) ?_
  refine p_put 5 hL 0 (fs' := moF F (upN (mW (tp, an, D, (fr, wv, hs), (v, RQ, RS, SC, er, mb), ck) th AN.length lt lf) 0 0) (decide (wv 5 ≠ 0))) (L' := [pt m (.inr (13, moF F (upN (mW (tp, an, D, (fr, wv, hs), (v, RQ, RS, SC, er, mb), ck) th AN.length lt lf) 0 0) (decide (wv 5 ≠ 0)))), pt (F 1) (.inl (6, 6, .inr (.inr (.inr (.inr (adD DL)))))), lst rdve DL, iar (F 3) 300 AN, iar (F 5) 260 PD, rst (F 6) er (v 20) (mb 1) (mb 2), rrw (F 12) 16 3 (RQ.map rqE), rrw (F 13) 32 5 (RS.map rsE), rrw (F 14) 8 4 (SC.map scE), iar (F 21) 260 fr, iar (F 31) 64 (hs.map (·.1)), iar (F 32) 64 (hs.map (·.2)), iar (F 34) 400 tp, iar (F 36) 300 an]) rfl rfl dX15_counter_2 rfl fp_X15_73_13 (Or.inl rfl) (Nat.le_of_ble_eq_true rfl) rfl rfl rfl (fun h hL => ?_)
  refine e_aload_n 6 dX15_counter_5 rfl rfl ?_
  refine e_iload_n 7 dX15_counter_6 rfl rfl ?_
  refine u_callV 10 dX15_counter_7 rfl cv_X15_435 (stars_at _ 0 hL rfl) (u_isDev (n := D.length) (stars_at _ 0 hL rfl) rfl (by omega)) rfl rfl (Nat.le_of_ble_eq_true rfl) (by decide) ⟨by omega, by omega⟩ ?_
  refine e_if_ne 15 13 dX15_counter_10 rfl rfl (fun c10 => ?_) (fun c10 => ?_)
  · have k10 := jb_ne_t c10
    obtain ⟨i, rfl, hi⟩ := dIn_nat (by omega) k10
    have ic : (nI i).toNatClampNeg = i := nI_clamp (by omega)
    obtain ⟨⟨d, s⟩, he⟩ : ∃ e, DL[i]? = some e := ⟨_, List.getElem?_eq_getElem (show i < DL.length by omega)⟩
    have hsD : D[i]? = some s := rfC_at hc he hi
    have hg : gD (tp, an, D, (fr, wv, hs), (v, RQ, RS, SC, er, mb), ck) i = s := gD_of hsD
    obtain ⟨hok, hoe⟩ := hE s (List.mem_of_getElem? hsD)
    have l7 : (dL s 7).length ≤ 253 := hoe.2.2.1.2.2.2.1
    refine e_aload_n 16 dX15_counter_15 rfl rfl ?_
    refine e_get 19 (v := (.ref (F 1))) dX15_counter_16 rfl fl_X15_9_13 (stars_at _ 0 hL rfl) rfl ?_
    refine e_iload_n 20 dX15_counter_19 rfl rfl ?_
    refine p_aaldD 21 hL 1 (v := d) (k := i) rfl (adD_at he) dX15_counter_20 rfl (by omega) ?_
    obtain ⟨A20, v20_0, v20_1, v20_2, v20_3, v20_4, v20_5, v20_6, v20_7, v20_8, v20_9, v20_10, v20_11, v20_12, v20_13, v20_14, v20_15, v20_16, v20_17, v20_18, v20_19, v20_20, v20_21⟩ := lst_V 2 hL rfl he
    refine e_astore_n 22 (ls' := [some (.ref m), some (.int (nI i)), some (.int x2), some (.ref d)]) dX15_counter_21 rfl (by decide) rfl ?_
    refine e_iload_n 23 dX15_counter_22 rfl rfl ?_
    refine e_iconst 24 (v := (nI 0)) dX15_counter_23 rfl (by decide) ?_
    refine e_bipush 26 (v := (nI 8)) dX15_counter_24 rfl (by decide) ?_
    refine u_callS 29 dX15_counter_26 rfl cs_X15_81 u_inI rfl rfl (Nat.le_of_ble_eq_true rfl) (by decide) ⟨by omega, by omega⟩ ?_
    refine e_if_eq 39 32 dX15_counter_29 rfl rfl (fun c29 => ?_) (fun c29 => ?_)
    · have k29 := jb_eq_t c29
      refine e_iload_n 40 dX15_counter_39 rfl rfl ?_
      by_cases hx40 : x2.toInt < 9 ∨ 16 < x2.toInt
      · refine e_tableOut 168 dX15_counter_40 hx40 rfl ?_
        refine e_iconst 169 (v := (-1)) dX15_counter_168 rfl (by decide) ?_
        exact e_iret dX15_counter_169 rfl (by omega) (by omega) (⟨_, ⟨by rw [coR, show (dIn D.length (nI i) && inI x2 (nI 0) (nI 16)) = false by rw [k10, inI_no (by decide) (by decide) (by have z := inI_out (by decide) (by decide) k29; omega)]; rfl]; rfl, rfl⟩, rfo_c (g := (tp, an, D, (fr, wv, hs), (v, RQ, RS, SC, er, mb), ck)) (th := 0) (F := F) (lt := lt) (lf := lf) (AN := AN) (PD := PD) (DL := DL) (X := []) hc (stars_ixn hL 14 rfl [0, 1, 2, 3, 4, 5, 6, 7, 8, 9, 10, 11, 12, 13] (by decide) rfl)⟩)
      · obtain ⟨n40, e40, r40, t40⟩ := sw_nat (by decide) hx40
        subst e40
        rcases (show (n40 = 9) ∨ (n40 = 10) ∨ (n40 = 11) ∨ (n40 = 12) ∨ (n40 = 13) ∨ (n40 = 14) ∨ (n40 = 15) ∨ (n40 = 16) by omega) with s40 | s40 | s40 | s40 | s40 | s40 | s40 | s40
        · refine e_tableIn 88 (off := 48) dX15_counter_40 (by rw [nI_toInt (by omega)]; omega) (by rw [nI_toInt (by omega)]; omega) (by rw [s40]; decide) rfl ?_
          refine e_aload_n 89 dX15_counter_88 rfl rfl ?_
          refine e_get 92 (v := (.int (bI (dB s 0)))) dX15_counter_89 rfl fl_X15_211_10 v20_0 rfl ?_
          refine e_if_eq 99 95 dX15_counter_92 rfl rfl (fun c92 => ?_) (fun c92 => ?_)
          · have k92 := jb_eq_t c92
            refine e_iconst 100 (v := (nI 0)) dX15_counter_99 rfl (by decide) ?_
            exact e_iret dX15_counter_100 rfl (by omega) (by omega) (⟨_, ⟨by rw [coR, show (dIn D.length (nI i) && inI (nI n40) (nI 0) (nI 16)) = true by rw [k10, inI_n (by omega) (by omega) (by decide)]; rfl, if_pos rfl, ic, nI_clamp (show n40 < 2 ^ 31 by omega), hg, show n40 = 9 by omega]; show _ = some (Value.int (nI (if dB s 0 then 1 else 0))); rw [k92]; rfl, rfl⟩, rfo_c (g := (tp, an, D, (fr, wv, hs), (v, RQ, RS, SC, er, mb), ck)) (th := 0) (F := F) (lt := lt) (lf := lf) (AN := AN) (PD := PD) (DL := DL) (X := []) hc (stars_ixn hL 14 rfl [0, 1, 2, 3, 4, 5, 6, 7, 8, 9, 10, 11, 12, 13] (by decide) rfl)⟩)
          · have k92 := jb_eq_f c92
            refine e_iconst 96 (v := (nI 1)) dX15_counter_95 rfl (by decide) ?_
            refine e_goto 100 dX15_counter_96 rfl ?_
            exact e_iret dX15_counter_100 rfl (by omega) (by omega) (⟨_, ⟨by rw [coR, show (dIn D.length (nI i) && inI (nI n40) (nI 0) (nI 16)) = true by rw [k10, inI_n (by omega) (by omega) (by decide)]; rfl, if_pos rfl, ic, nI_clamp (show n40 < 2 ^ 31 by omega), hg, show n40 = 9 by omega]; show _ = some (Value.int (nI (if dB s 0 then 1 else 0))); rw [k92]; rfl, rfl⟩, rfo_c (g := (tp, an, D, (fr, wv, hs), (v, RQ, RS, SC, er, mb), ck)) (th := 0) (F := F) (lt := lt) (lf := lf) (AN := AN) (PD := PD) (DL := DL) (X := []) hc (stars_ixn hL 14 rfl [0, 1, 2, 3, 4, 5, 6, 7, 8, 9, 10, 11, 12, 13] (by decide) rfl)⟩)
        · refine e_tableIn 101 (off := 61) dX15_counter_40 (by rw [nI_toInt (by omega)]; omega) (by rw [nI_toInt (by omega)]; omega) (by rw [s40]; decide) rfl ?_
          refine e_aload_n 102 dX15_counter_101 rfl rfl ?_
          refine e_get 105 (v := (.int (nI (dL s 5).length))) dX15_counter_102 rfl fl_X15_189_10 v20_0 rfl ?_
          exact e_iret dX15_counter_105 rfl (by omega) (by omega) (⟨_, ⟨by rw [coR, show (dIn D.length (nI i) && inI (nI n40) (nI 0) (nI 16)) = true by rw [k10, inI_n (by omega) (by omega) (by decide)]; rfl, if_pos rfl, ic, nI_clamp (show n40 < 2 ^ 31 by omega), hg, show n40 = 10 by omega]; rfl, rfl⟩, rfo_c (g := (tp, an, D, (fr, wv, hs), (v, RQ, RS, SC, er, mb), ck)) (th := 0) (F := F) (lt := lt) (lf := lf) (AN := AN) (PD := PD) (DL := DL) (X := []) hc (stars_ixn hL 14 rfl [0, 1, 2, 3, 4, 5, 6, 7, 8, 9, 10, 11, 12, 13] (by decide) rfl)⟩)
        · refine e_tableIn 106 (off := 66) dX15_counter_40 (by rw [nI_toInt (by omega)]; omega) (by rw [nI_toInt (by omega)]; omega) (by rw [s40]; decide) rfl ?_
          refine e_aload_n 107 dX15_counter_106 rfl rfl ?_
          refine e_get 110 (v := (.int (nI (s.1 18)))) dX15_counter_107 rfl fl_X15_147_10 v20_0 rfl ?_
          exact e_iret dX15_counter_110 rfl (by omega) (by omega) (⟨_, ⟨by rw [coR, show (dIn D.length (nI i) && inI (nI n40) (nI 0) (nI 16)) = true by rw [k10, inI_n (by omega) (by omega) (by decide)]; rfl, if_pos rfl, ic, nI_clamp (show n40 < 2 ^ 31 by omega), hg, show n40 = 11 by omega]; rfl, rfl⟩, rfo_c (g := (tp, an, D, (fr, wv, hs), (v, RQ, RS, SC, er, mb), ck)) (th := 0) (F := F) (lt := lt) (lf := lf) (AN := AN) (PD := PD) (DL := DL) (X := []) hc (stars_ixn hL 14 rfl [0, 1, 2, 3, 4, 5, 6, 7, 8, 9, 10, 11, 12, 13] (by decide) rfl)⟩)
        · refine e_tableIn 111 (off := 71) dX15_counter_40 (by rw [nI_toInt (by omega)]; omega) (by rw [nI_toInt (by omega)]; omega) (by rw [s40]; decide) rfl ?_
          refine e_aload_n 112 dX15_counter_111 rfl rfl ?_
          refine e_get 115 (v := (.int (nI (dL s 7).length))) dX15_counter_112 rfl fl_X15_260_10 v20_0 rfl ?_
          refine e_if_le 127 118 dX15_counter_115 rfl rfl (fun c115 => ?_) (fun c115 => ?_)
          · have k115 := j_le0_t (a := (dL s 7).length) (by omega) c115
            refine e_iconst 128 (v := (nI 0)) dX15_counter_127 rfl (by decide) ?_
            exact e_iret dX15_counter_128 rfl (by omega) (by omega) (⟨_, ⟨by rw [coR, show (dIn D.length (nI i) && inI (nI n40) (nI 0) (nI 16)) = true by rw [k10, inI_n (by omega) (by omega) (by decide)]; rfl, if_pos rfl, ic, nI_clamp (show n40 < 2 ^ 31 by omega), hg, show n40 = 12 by omega]; show _ = some (Value.int (nI (if 0 < (dL s 7).length then (dL s 7).length + 3 else 0))); rw [if_neg (show ¬ 0 < (dL s 7).length by omega)], rfl⟩, rfo_c (g := (tp, an, D, (fr, wv, hs), (v, RQ, RS, SC, er, mb), ck)) (th := 0) (F := F) (lt := lt) (lf := lf) (AN := AN) (PD := PD) (DL := DL) (X := []) hc (stars_ixn hL 14 rfl [0, 1, 2, 3, 4, 5, 6, 7, 8, 9, 10, 11, 12, 13] (by decide) rfl)⟩)
          · have k115 := j_le0_f (a := (dL s 7).length) (by omega) c115
            refine e_aload_n 119 dX15_counter_118 rfl rfl ?_
            refine e_get 122 (v := (.int (nI (dL s 7).length))) dX15_counter_119 rfl fl_X15_260_10 v20_0 rfl ?_
            refine e_iconst 123 (v := (nI 3)) dX15_counter_122 rfl (by decide) ?_
            refine e_iadd 124 (v := (nI ((dL s 7).length + 3))) dX15_counter_123 rfl (nI_add ((dL s 7).length) 3) ?_
            refine e_goto 128 dX15_counter_124 rfl ?_
            exact e_iret dX15_counter_128 rfl (by omega) (by omega) (⟨_, ⟨by rw [coR, show (dIn D.length (nI i) && inI (nI n40) (nI 0) (nI 16)) = true by rw [k10, inI_n (by omega) (by omega) (by decide)]; rfl, if_pos rfl, ic, nI_clamp (show n40 < 2 ^ 31 by omega), hg, show n40 = 12 by omega]; show _ = some (Value.int (nI (if 0 < (dL s 7).length then (dL s 7).length + 3 else 0))); rw [if_pos (show 0 < (dL s 7).length by omega)], rfl⟩, rfo_c (g := (tp, an, D, (fr, wv, hs), (v, RQ, RS, SC, er, mb), ck)) (th := 0) (F := F) (lt := lt) (lf := lf) (AN := AN) (PD := PD) (DL := DL) (X := []) hc (stars_ixn hL 14 rfl [0, 1, 2, 3, 4, 5, 6, 7, 8, 9, 10, 11, 12, 13] (by decide) rfl)⟩)
        · refine e_tableIn 129 (off := 89) dX15_counter_40 (by rw [nI_toInt (by omega)]; omega) (by rw [nI_toInt (by omega)]; omega) (by rw [s40]; decide) rfl ?_
          refine e_aload_n 130 dX15_counter_129 rfl rfl ?_
          refine e_get 133 (v := (.int (nI (dL s 7).length))) dX15_counter_130 rfl fl_X15_260_10 v20_0 rfl ?_
          refine e_if_le 143 136 dX15_counter_133 rfl rfl (fun c133 => ?_) (fun c133 => ?_)
          · have k133 := j_le0_t (a := (dL s 7).length) (by omega) c133
            refine e_iconst 144 (v := (nI 0)) dX15_counter_143 rfl (by decide) ?_
            exact e_iret dX15_counter_144 rfl (by omega) (by omega) (⟨_, ⟨by rw [coR, show (dIn D.length (nI i) && inI (nI n40) (nI 0) (nI 16)) = true by rw [k10, inI_n (by omega) (by omega) (by decide)]; rfl, if_pos rfl, ic, nI_clamp (show n40 < 2 ^ 31 by omega), hg, show n40 = 13 by omega]; show _ = some (Value.int (nI (s.1 17))); rw [hoe.2.2.1.2.2.2.2 (show (dL s 7).length = 0 by omega)], rfl⟩, rfo_c (g := (tp, an, D, (fr, wv, hs), (v, RQ, RS, SC, er, mb), ck)) (th := 0) (F := F) (lt := lt) (lf := lf) (AN := AN) (PD := PD) (DL := DL) (X := []) hc (stars_ixn hL 14 rfl [0, 1, 2, 3, 4, 5, 6, 7, 8, 9, 10, 11, 12, 13] (by decide) rfl)⟩)
          · have k133 := j_le0_f (a := (dL s 7).length) (by omega) c133
            refine e_aload_n 137 dX15_counter_136 rfl rfl ?_
            refine e_get 140 (v := (.int (nI (s.1 17)))) dX15_counter_137 rfl fl_X15_266_10 v20_0 rfl ?_
            refine e_goto 144 dX15_counter_140 rfl ?_
            exact e_iret dX15_counter_144 rfl (by omega) (by omega) (⟨_, ⟨by rw [coR, show (dIn D.length (nI i) && inI (nI n40) (nI 0) (nI 16)) = true by rw [k10, inI_n (by omega) (by omega) (by decide)]; rfl, if_pos rfl, ic, nI_clamp (show n40 < 2 ^ 31 by omega), hg, show n40 = 13 by omega]; rfl, rfl⟩, rfo_c (g := (tp, an, D, (fr, wv, hs), (v, RQ, RS, SC, er, mb), ck)) (th := 0) (F := F) (lt := lt) (lf := lf) (AN := AN) (PD := PD) (DL := DL) (X := []) hc (stars_ixn hL 14 rfl [0, 1, 2, 3, 4, 5, 6, 7, 8, 9, 10, 11, 12, 13] (by decide) rfl)⟩)
        · refine e_tableIn 145 (off := 105) dX15_counter_40 (by rw [nI_toInt (by omega)]; omega) (by rw [nI_toInt (by omega)]; omega) (by rw [s40]; decide) rfl ?_
          refine e_aload_n 146 dX15_counter_145 rfl rfl ?_
          refine e_get 149 (v := (.int (nI (dL s 6).length))) dX15_counter_146 rfl fl_X15_251_10 v20_0 rfl ?_
          exact e_iret dX15_counter_149 rfl (by omega) (by omega) (⟨_, ⟨by rw [coR, show (dIn D.length (nI i) && inI (nI n40) (nI 0) (nI 16)) = true by rw [k10, inI_n (by omega) (by omega) (by decide)]; rfl, if_pos rfl, ic, nI_clamp (show n40 < 2 ^ 31 by omega), hg, show n40 = 14 by omega]; rfl, rfl⟩, rfo_c (g := (tp, an, D, (fr, wv, hs), (v, RQ, RS, SC, er, mb), ck)) (th := 0) (F := F) (lt := lt) (lf := lf) (AN := AN) (PD := PD) (DL := DL) (X := []) hc (stars_ixn hL 14 rfl [0, 1, 2, 3, 4, 5, 6, 7, 8, 9, 10, 11, 12, 13] (by decide) rfl)⟩)
        · refine e_tableIn 150 (off := 110) dX15_counter_40 (by rw [nI_toInt (by omega)]; omega) (by rw [nI_toInt (by omega)]; omega) (by rw [s40]; decide) rfl ?_
          refine e_aload_n 151 dX15_counter_150 rfl rfl ?_
          refine e_get 154 (v := (.int (bI (dB s 1)))) dX15_counter_151 rfl fl_X15_480_10 v20_0 rfl ?_
          refine e_if_eq 161 157 dX15_counter_154 rfl rfl (fun c154 => ?_) (fun c154 => ?_)
          · have k154 := jb_eq_t c154
            refine e_iconst 162 (v := (nI 0)) dX15_counter_161 rfl (by decide) ?_
            exact e_iret dX15_counter_162 rfl (by omega) (by omega) (⟨_, ⟨by rw [coR, show (dIn D.length (nI i) && inI (nI n40) (nI 0) (nI 16)) = true by rw [k10, inI_n (by omega) (by omega) (by decide)]; rfl, if_pos rfl, ic, nI_clamp (show n40 < 2 ^ 31 by omega), hg, show n40 = 15 by omega]; show _ = some (Value.int (nI (if dB s 1 then 1 else 0))); rw [k154]; rfl, rfl⟩, rfo_c (g := (tp, an, D, (fr, wv, hs), (v, RQ, RS, SC, er, mb), ck)) (th := 0) (F := F) (lt := lt) (lf := lf) (AN := AN) (PD := PD) (DL := DL) (X := []) hc (stars_ixn hL 14 rfl [0, 1, 2, 3, 4, 5, 6, 7, 8, 9, 10, 11, 12, 13] (by decide) rfl)⟩)
          · have k154 := jb_eq_f c154
            refine e_iconst 158 (v := (nI 1)) dX15_counter_157 rfl (by decide) ?_
            refine e_goto 162 dX15_counter_158 rfl ?_
            exact e_iret dX15_counter_162 rfl (by omega) (by omega) (⟨_, ⟨by rw [coR, show (dIn D.length (nI i) && inI (nI n40) (nI 0) (nI 16)) = true by rw [k10, inI_n (by omega) (by omega) (by decide)]; rfl, if_pos rfl, ic, nI_clamp (show n40 < 2 ^ 31 by omega), hg, show n40 = 15 by omega]; show _ = some (Value.int (nI (if dB s 1 then 1 else 0))); rw [k154]; rfl, rfl⟩, rfo_c (g := (tp, an, D, (fr, wv, hs), (v, RQ, RS, SC, er, mb), ck)) (th := 0) (F := F) (lt := lt) (lf := lf) (AN := AN) (PD := PD) (DL := DL) (X := []) hc (stars_ixn hL 14 rfl [0, 1, 2, 3, 4, 5, 6, 7, 8, 9, 10, 11, 12, 13] (by decide) rfl)⟩)
        · refine e_tableIn 163 (off := 123) dX15_counter_40 (by rw [nI_toInt (by omega)]; omega) (by rw [nI_toInt (by omega)]; omega) (by rw [s40]; decide) rfl ?_
          refine e_aload_n 164 dX15_counter_163 rfl rfl ?_
          refine e_get 167 (v := (.int (nI (s.1 1)))) dX15_counter_164 rfl fl_X15_248_10 v20_0 rfl ?_
          exact e_iret dX15_counter_167 rfl (by omega) (by omega) (⟨_, ⟨by rw [coR, show (dIn D.length (nI i) && inI (nI n40) (nI 0) (nI 16)) = true by rw [k10, inI_n (by omega) (by omega) (by decide)]; rfl, if_pos rfl, ic, nI_clamp (show n40 < 2 ^ 31 by omega), hg, show n40 = 16 by omega]; rfl, rfl⟩, rfo_c (g := (tp, an, D, (fr, wv, hs), (v, RQ, RS, SC, er, mb), ck)) (th := 0) (F := F) (lt := lt) (lf := lf) (AN := AN) (PD := PD) (DL := DL) (X := []) hc (stars_ixn hL 14 rfl [0, 1, 2, 3, 4, 5, 6, 7, 8, 9, 10, 11, 12, 13] (by decide) rfl)⟩)
    · have k29 := jb_eq_f c29
      obtain ⟨n, rfl, na, nb⟩ := inI_nat (by first | decide | omega) (by first | decide | omega) k29
      have nc : (nI n).toNatClampNeg = n := nI_clamp (by omega)
      refine e_aload_n 33 dX15_counter_32 rfl rfl ?_
      refine e_get 36 (v := (.ref (A20 30))) dX15_counter_33 rfl fl_X15_186_10 v20_0 rfl ?_
      refine e_iload_n 37 dX15_counter_36 rfl rfl ?_
      refine v_iald 38 (r := (tbl 9 (dC s))) v20_19 (k := n) (x := (dC s n)) dX15_counter_37 rfl (by simp only [tbl_len, kys_len, szs_len, List.length_reverse] <;> omega) (by omega) (tbl_at (by omega)) ?_
      exact e_iret dX15_counter_38 rfl (by omega) (by omega) (⟨_, ⟨by rw [coR, show (dIn D.length (nI i) && inI (nI n) (nI 0) (nI 16)) = true by rw [k10, inI_n (by omega) (by omega) (by decide)]; rfl, if_pos rfl, ic, nc, hg, co_n (by omega)], rfl⟩, rfo_c (g := (tp, an, D, (fr, wv, hs), (v, RQ, RS, SC, er, mb), ck)) (th := 0) (F := F) (lt := lt) (lf := lf) (AN := AN) (PD := PD) (DL := DL) (X := []) hc (stars_ixn hL 14 rfl [0, 1, 2, 3, 4, 5, 6, 7, 8, 9, 10, 11, 12, 13] (by decide) rfl)⟩)
  · have k10 := jb_ne_f c10
    refine e_iconst 14 (v := (-1)) dX15_counter_13 rfl (by decide) ?_
    exact e_iret dX15_counter_14 rfl (by omega) (by omega) (⟨_, ⟨by rw [coR, show (dIn D.length x1 && inI x2 (nI 0) (nI 16)) = false by rw [k10]; rfl]; rfl, rfl⟩, rfo_c (g := (tp, an, D, (fr, wv, hs), (v, RQ, RS, SC, er, mb), ck)) (th := 0) (F := F) (lt := lt) (lf := lf) (AN := AN) (PD := PD) (DL := DL) (X := []) hc (stars_ixn hL 14 rfl [0, 1, 2, 3, 4, 5, 6, 7, 8, 9, 10, 11, 12, 13] (by decide) rfl)⟩)
