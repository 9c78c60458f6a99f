/-! the reference: its public methods, second part -/
theorem inI_out {x : Int32} {a b : Nat} (ha : a < 2 ^ 31) (hb : b < 2 ^ 31) (h : inI x (nI a) (nI b) = false) : x.toInt < a ∨ (b : Int) < x.toInt := by
  simp only [inI, Bool.and_eq_false_iff, decide_eq_false_iff_not, Int32.le_iff_toInt_le, nI_toInt ha, nI_toInt hb] at h
  omega
theorem iw_apl {n k v : Nat} {r r' : List Nat} (hk : r.length = k) (e : r' = r ++ [v]) (hl : r.length < n) : r'.length ≤ n ∧ ∀ j, j < r'.length → (j = k ∧ r'.getD j 0 = v) ∨ (j ≠ k ∧ j < r.length ∧ r'.getD j 0 = r.getD j 0) := by
  subst hk
  subst e
  exact iw_app hl
theorem rs_0 {RS : List RSE} (h : 0 < RS.length) : rE2 (RS.map rsE) 0 = (rsE (RS.headD ([], 0, 0, 0, 0, 0))).2 ∧ rE1 (RS.map rsE) 0 = (RS.headD ([], 0, 0, 0, 0, 0)).1 := by
  cases RS with
  | nil => exact absurd h (Nat.lt_irrefl 0)
  | cons e R => exact ⟨rfl, rfl⟩
theorem rq_0 {RQ : List RQE} (h : 0 < RQ.length) : rE2 (RQ.map rqE) 0 = (rqE (RQ.headD ([], 0, 0, 0))).2 := by
  cases RQ with
  | nil => exact absurd h (Nat.lt_irrefl 0)
  | cons e R => rfl
theorem rs_n {e : RSE} {n : Nat} (h : n < 4) : (rsE e).2.getD n 0 = rsN e n := by
  match n, h with
  | 0, _ => rfl
  | 1, _ => rfl
  | 2, _ => rfl
  | 3, _ => rfl
theorem te_map {hs : List (Nat × Nat)} {i k x : Nat} (hx : ixH hs k = some i) : (teL hs k x).map (·.1) = hs.map (·.1) ∧ (teL hs k x).map (·.2) = (hs.map (·.2)).set i x ∧ (teL hs k x).length = hs.length := by
  simp only [teL, hx]
  refine ⟨?_, by rw [List.map_set], by rw [List.length_set]⟩
  rw [List.map_set]
  rw [ixH, List.findIdx?_eq_some_iff_getElem] at hx
  obtain ⟨hi, he, -⟩ := hx
  have e : hs[i].1 = k := by simpa using he
  refine List.ext_getElem? (fun j => ?_)
  rw [List.getElem?_set]
  split
  · rename_i e2
    subst e2
    rw [List.getElem?_map, List.getElem?_eq_getElem hi, List.length_map, if_pos hi, Option.map_some, e]
  · rfl
set_option maxRecDepth 20000 in
set_option maxHeartbeats 2000000 in
theorem k_X15_result {m th : Nat} {tp an fr : List Nat} {D : List DS} {wv : Nat → Nat} {hs : List (Nat × Nat)} {v : Nat → Nat} {RQ : List RQE} {RS : List RSE} {SC : List SCE} {er : List Nat} {mb : Nat → Bool} {ck : Nat} {x : Int32} : CA mX15_result [.ref m, .int x] [rfo m (tp, an, D, (fr, wv, hs), (v, RQ, RS, SC, er, mb), ck) th] (fun r K => r = some (.int (rsR (tp, an, D, (fr, wv, hs), (v, RQ, RS, SC, er, mb), ck) x)) ∧ K = [rfo m (tp, an, D, (fr, wv, hs), (v, RQ, RS, SC, er, mb), ck) 0]) 1 30 0 0 := by
  refine CA.mk 1 (ls := [some (.ref m), some (.int x), none]) rfl rfl (Nat.le_of_ble_eq_true rfl) rfl (fun h hL => ?_)
  obtain ⟨F, lt, lf, AN, PD, DL, hc, hL⟩ := rfo_o hL
  have hL : stars [pt m (.inr (13, moF F (mW (tp, an, D, (fr, wv, hs), (v, RQ, RS, SC, er, mb), ck) th AN.length lt lf) (decide (wv 5 ≠ 0)))), pt (F 1) (.inl (6, 6, .inr (.inr (.inr (.inr (adD DL)))))), lst rdve DL, iar (F 3) 300 AN, iar (F 5) 260 PD, rst (F 6) er (v 20) (mb 1) (mb 2), rrw (F 12) 16 3 (RQ.map rqE), rrw (F 13) 32 5 (RS.map rsE), rrw (F 14) 8 4 (SC.map scE), iar (F 21) 260 fr, iar (F 31) 64 (hs.map (·.1)), iar (F 32) 64 (hs.map (·.2)), iar (F 34) 400 tp, iar (F 36) 300 an] h := hL
  have ltp := (iar_V _ 12 hL rfl).le
  have lan := (iar_V _ 13 hL rfl).le
  have lfr := (iar_V _ 9 hL rfl).le
  have lrs : RS.length ≤ 32 := by have z := (rrw_V _ 7 hL rfl).choose_spec.2.2.2.2; rw [List.length_map] at z; exact z
  have lrm : (RS.map rsE).length = RS.length := List.length_map _
  refine e_aload_n 1 dX15_result_0 rfl rfl ?_
  refine e_iconst 2 (v := (nI 0)) dX15_result_1 rfl (by decide) ?_
  refine p_put 5 hL 0 (fs' := moF F (upN (mW (tp, an, D, (fr, wv, hs), (v, RQ, RS, SC, er, mb), ck) th AN.length lt lf) 0 0) (decide (wv 5 ≠ 0))) (L' := [pt m (.inr (13, moF F (upN (mW (tp, an, D, (fr, wv, hs), (v, RQ, RS, SC, er, mb), ck) th AN.length lt lf) 0 0) (decide (wv 5 ≠ 0)))), pt (F 1) (.inl (6, 6, .inr (.inr (.inr (.inr (adD DL)))))), lst rdve DL, iar (F 3) 300 AN, iar (F 5) 260 PD, rst (F 6) er (v 20) (mb 1) (mb 2), rrw (F 12) 16 3 (RQ.map rqE), rrw (F 13) 32 5 (RS.map rsE), rrw (F 14) 8 4 (SC.map scE), iar (F 21) 260 fr, iar (F 31) 64 (hs.map (·.1)), iar (F 32) 64 (hs.map (·.2)), iar (F 34) 400 tp, iar (F 36) 300 an]) rfl rfl dX15_result_2 rfl fp_X15_73_13 (Or.inl rfl) (Nat.le_of_ble_eq_true rfl) rfl rfl rfl (fun h hL => ?_)
  refine e_aload_n 6 dX15_result_5 rfl rfl ?_
  refine e_get 9 (v := (.ref (F 13))) dX15_result_6 rfl fl_X15_48_13 (stars_at _ 0 hL rfl) rfl ?_
  obtain ⟨A9, u9_0, u9_1, u9_2, u9_3, u9_4⟩ := rrw_V _ 7 hL rfl
  refine e_get 12 (v := (.int (nI (RS.map rsE).length))) dX15_result_9 rfl fl_X15_298_11 u9_0 rfl ?_
  refine e_if_eq 24 15 dX15_result_12 rfl rfl (fun c12 => ?_) (fun c12 => ?_)
  · have k12 := j_eq0_t (a := (RS.map rsE).length) (by omega) c12
    refine e_iconst 25 (v := (-1)) dX15_result_24 rfl (by decide) ?_
    exact e_iret dX15_result_25 rfl (by omega) (by omega) (⟨_, ⟨by rw [rsR, if_pos (show RS.length = 0 by omega)], rfl⟩, rfo_c (g := (tp, an, D, (fr, wv, hs), (v, RQ, RS, SC, er, mb), ck)) (th := 0) (F := F) (lt := lt) (lf := lf) (AN := AN) (PD := PD) (DL := DL) (X := []) hc (stars_ixn hL 14 rfl [0, 1, 2, 3, 4, 5, 6, 7, 8, 9, 10, 11, 12, 13] (by decide) rfl)⟩)
  · have k12 := j_eq0_f (a := (RS.map rsE).length) (by omega) c12
    have hrs : 0 < RS.length := by omega
    have l5 : (rE2 (RS.map rsE) 0).length = 5 := by rw [(rs_0 hrs).1]; rfl
    refine e_iload_n 16 dX15_result_15 rfl rfl ?_
    refine e_iconst 17 (v := (nI 0)) dX15_result_16 rfl (by decide) ?_
    refine e_iconst 18 (v := (nI 5)) dX15_result_17 rfl (by decide) ?_
    refine u_callS 21 dX15_result_18 rfl cs_X15_81 u_inI rfl rfl (Nat.le_of_ble_eq_true rfl) (by decide) ⟨by omega, by omega⟩ ?_
    refine e_if_ne 26 24 dX15_result_21 rfl rfl (fun c21 => ?_) (fun c21 => ?_)
    · have k21 := jb_ne_t c21
      obtain ⟨n, rfl, na, nb⟩ := inI_nat (by first | decide | omega) (by first | decide | omega) k21
      have nc : (nI n).toNatClampNeg = n := nI_clamp (by omega)
      refine e_aload_n 27 dX15_result_26 rfl rfl ?_
      refine e_get 30 (v := (.ref (F 13))) dX15_result_27 rfl fl_X15_48_13 (stars_at _ 0 hL rfl) rfl ?_
      refine e_get 33 (v := (.ref (A9 2))) dX15_result_30 rfl fl_X15_292_11 u9_0 rfl ?_
      refine e_iconst 34 (v := (nI 0)) dX15_result_33 rfl (by decide) ?_
      refine v_aald 35 u9_3 (k := 0) dX15_result_34 rfl (by omega) (by omega) (fun b34 y34 => ?_)
      refine e_astore_n 36 (ls' := [some (.ref m), some (.int (nI n)), some (.ref b34)]) dX15_result_35 rfl (by decide) rfl ?_
      refine e_iload_n 37 dX15_result_36 rfl rfl ?_
      refine e_iconst 38 (v := (nI 4)) dX15_result_37 rfl (by decide) ?_
      refine e_icmp_ge 47 41 dX15_result_38 rfl rfl (fun c38 => ?_) (fun c38 => ?_)
      · have k38 := j_ge_t (a := n) (b := 4) (by omega) (by omega) c38
        refine e_iload_n 48 dX15_result_47 rfl rfl ?_
        refine e_iconst 49 (v := (nI 4)) dX15_result_48 rfl (by decide) ?_
        refine e_icmp_ne 64 52 dX15_result_49 rfl rfl (fun c49 => ?_) (fun c49 => ?_)
        · have k49 := j_ne_t (a := n) (b := 4) (by omega) (by omega) c49
          refine e_aload_n 65 dX15_result_64 rfl rfl ?_
          refine e_iconst 66 (v := (nI 4)) dX15_result_65 rfl (by decide) ?_
          refine v_iald 67 (r := (rE2 (RS.map rsE) 0)) y34 (k := 4) (x := ((rE2 (RS.map rsE) 0).getD 4 0)) dX15_result_66 rfl (by rw [l5]; decide) (by omega) rfl ?_
          exact e_iret dX15_result_67 rfl (by omega) (by omega) (⟨_, ⟨by rw [rsR, if_neg (show ¬ RS.length = 0 by omega), if_neg (show ¬ ((nI n).toInt < 0 ∨ 5 < (nI n).toInt) by rw [nI_toInt (by omega)]; omega), nc, (rs_0 hrs).1, show n = 5 by omega]; rfl, rfl⟩, rfo_c (g := (tp, an, D, (fr, wv, hs), (v, RQ, RS, SC, er, mb), ck)) (th := 0) (F := F) (lt := lt) (lf := lf) (AN := AN) (PD := PD) (DL := DL) (X := []) hc (stars_ixn hL 14 rfl [0, 1, 2, 3, 4, 5, 6, 7, 8, 9, 10, 11, 12, 13] (by decide) rfl)⟩)
        · have k49 := j_ne_f (a := n) (b := 4) (by omega) (by omega) c49
          refine e_aload_n 53 dX15_result_52 rfl rfl ?_
          refine e_get 56 (v := (.ref (F 13))) dX15_result_53 rfl fl_X15_48_13 (stars_at _ 0 hL rfl) rfl ?_
          refine e_get 59 (v := (.ref (A9 1))) dX15_result_56 rfl fl_X15_323_11 u9_0 rfl ?_
          refine e_iconst 60 (v := (nI 0)) dX15_result_59 rfl (by decide) ?_
          refine v_iald 61 (r := (rZ (RS.map rsE))) u9_2 (k := 0) (x := (rE1 (RS.map rsE) 0).length) dX15_result_60 rfl (by rw [rZ_len]; omega) (by omega) rZ_at ?_
          refine e_goto 67 dX15_result_61 rfl ?_
          exact e_iret dX15_result_67 rfl (by omega) (by omega) (⟨_, ⟨by rw [rsR, if_neg (show ¬ RS.length = 0 by omega), if_neg (show ¬ ((nI n).toInt < 0 ∨ 5 < (nI n).toInt) by rw [nI_toInt (by omega)]; omega), nc, (rs_0 hrs).2, show n = 4 by omega]; rfl, rfl⟩, rfo_c (g := (tp, an, D, (fr, wv, hs), (v, RQ, RS, SC, er, mb), ck)) (th := 0) (F := F) (lt := lt) (lf := lf) (AN := AN) (PD := PD) (DL := DL) (X := []) hc (stars_ixn hL 14 rfl [0, 1, 2, 3, 4, 5, 6, 7, 8, 9, 10, 11, 12, 13] (by decide) rfl)⟩)
      · have k38 := j_ge_f (a := n) (b := 4) (by omega) (by omega) c38
        refine e_aload_n 42 dX15_result_41 rfl rfl ?_
        refine e_iload_n 43 dX15_result_42 rfl rfl ?_
        refine v_iald 44 (r := (rE2 (RS.map rsE) 0)) y34 (k := n) (x := ((rE2 (RS.map rsE) 0).getD n 0)) dX15_result_43 rfl (by rw [l5]; omega) (by omega) rfl ?_
        refine e_goto 67 dX15_result_44 rfl ?_
        exact e_iret dX15_result_67 rfl (by omega) (by omega) (⟨_, ⟨by rw [rsR, if_neg (show ¬ RS.length = 0 by omega), if_neg (show ¬ ((nI n).toInt < 0 ∨ 5 < (nI n).toInt) by rw [nI_toInt (by omega)]; omega), nc, (rs_0 hrs).1, rs_n (by omega)]; rfl, rfl⟩, rfo_c (g := (tp, an, D, (fr, wv, hs), (v, RQ, RS, SC, er, mb), ck)) (th := 0) (F := F) (lt := lt) (lf := lf) (AN := AN) (PD := PD) (DL := DL) (X := []) hc (stars_ixn hL 14 rfl [0, 1, 2, 3, 4, 5, 6, 7, 8, 9, 10, 11, 12, 13] (by decide) rfl)⟩)
    · have k21 := jb_ne_f c21
      refine e_iconst 25 (v := (-1)) dX15_result_24 rfl (by decide) ?_
      exact e_iret dX15_result_25 rfl (by omega) (by omega) (⟨_, ⟨by rw [rsR, if_neg (show ¬ RS.length = 0 by omega), if_pos (show x.toInt < 0 ∨ 5 < x.toInt from inI_out (by decide) (by decide) k21)], rfl⟩, rfo_c (g := (tp, an, D, (fr, wv, hs), (v, RQ, RS, SC, er, mb), ck)) (th := 0) (F := F) (lt := lt) (lf := lf) (AN := AN) (PD := PD) (DL := DL) (X := []) hc (stars_ixn hL 14 rfl [0, 1, 2, 3, 4, 5, 6, 7, 8, 9, 10, 11, 12, 13] (by decide) rfl)⟩)
theorem nI_lt0 {n : Nat} (h : 0 < n) (h2 : n < 2 ^ 31) : (0 : Int32) < nI n := by
  rw [Int32.lt_iff_toInt_lt, nI_toInt h2]
  show (0 : Int) < n
  omega
set_option maxRecDepth 20000 in
set_option maxHeartbeats 2000000 in
theorem k_X15_data {m th : Nat} {tp an fr : List Nat} {D : List DS} {wv : Nat → Nat} {hs : List (Nat × Nat)} {v : Nat → Nat} {RQ : List RQE} {RS : List RSE} {SC : List SCE} {er : List Nat} {mb : Nat → Bool} {ck : Nat} {k : Nat} (hrs : 0 < RS.length) (hk : k < (RS.headD ([], 0, 0, 0, 0, 0)).1.length) (hl3 : (RS.headD ([], 0, 0, 0, 0, 0)).1.length ≤ 253) : CA mX15_data [.ref m, .int (nI k)] [rfo m (tp, an, D, (fr, wv, hs), (v, RQ, RS, SC, er, mb), ck) th] (fun r K => r = some (.int (nI ((RS.headD ([], 0, 0, 0, 0, 0)).1.getD k 0))) ∧ K = [rfo m (tp, an, D, (fr, wv, hs), (v, RQ, RS, SC, er, mb), ck) 0]) 1 30 0 0 := by
  refine CA.mk 0 (ls := [some (.ref m), some (.int (nI k))]) rfl rfl (Nat.le_of_ble_eq_true rfl) rfl (fun h hL => ?_)
  obtain ⟨F, lt, lf, AN, PD, DL, hc, hL⟩ := rfo_o hL
  have hL : stars [pt m (.inr (13, moF F (mW (tp, an, D, (fr, wv, hs), (v, RQ, RS, SC, er, mb), ck) th AN.length lt lf) (decide (wv 5 ≠ 0)))), pt (F 1) (.inl (6, 6, .inr (.inr (.inr (.inr (adD DL)))))), lst rdve DL, iar (F 3) 300 AN, iar (F 5) 260 PD, rst (F 6) er (v 20) (mb 1) (mb 2), rrw (F 12) 16 3 (RQ.map rqE), rrw (F 13) 32 5 (RS.map rsE), rrw (F 14) 8 4 (SC.map scE), iar (F 21) 260 fr, iar (F 31) 64 (hs.map (·.1)), iar (F 32) 64 (hs.map (·.2)), iar (F 34) 400 tp, iar (F 36) 300 an] h := hL
  have ltp := (iar_V _ 12 hL rfl).le
  have lan := (iar_V _ 13 hL rfl).le
  have lfr := (iar_V _ 9 hL rfl).le
  have lrs : RS.length ≤ 32 := by have z := (rrw_V _ 7 hL rfl).choose_spec.2.2.2.2; rw [List.length_map] at z; exact z
  have lrm : (RS.map rsE).length = RS.length := List.length_map _
  have hin : inI (nI k) (nI 0) (nI (rE1 (RS.map rsE) 0).length - nI 1) = true := by rw [(rs_0 hrs).2, pk_sub (show 1 ≤ (RS.headD ([], 0, 0, 0, 0, 0)).1.length by omega)]; simp only [inI, Bool.and_eq_true, decide_eq_true_eq]; exact ⟨nI_le (Nat.zero_le _) (by omega), nI_le (by omega) (by omega)⟩
  refine e_aload_n 1 dX15_data_0 rfl rfl ?_
  refine e_aload_n 2 dX15_data_1 rfl rfl ?_
  refine e_get 5 (v := (.ref (F 13))) dX15_data_2 rfl fl_X15_48_13 (stars_at _ 0 hL rfl) rfl ?_
  obtain ⟨A5, u5_0, u5_1, u5_2, u5_3, u5_4⟩ := rrw_V _ 7 hL rfl
  refine e_get 8 (v := (.int (nI (RS.map rsE).length))) dX15_data_5 rfl fl_X15_298_11 u5_0 rfl ?_
  refine e_if_le 34 11 dX15_data_8 rfl rfl (fun c8 => absurd c8 (Int32.not_le.mpr (nI_lt0 (show 0 < (RS.map rsE).length by omega) (by omega)))) (fun c8 => ?_)
  refine e_iload_n 12 dX15_data_11 rfl rfl ?_
  refine e_iconst 13 (v := (nI 0)) dX15_data_12 rfl (by decide) ?_
  refine e_aload_n 14 dX15_data_13 rfl rfl ?_
  refine e_get 17 (v := (.ref (F 13))) dX15_data_14 rfl fl_X15_48_13 (stars_at _ 0 hL rfl) rfl ?_
  refine e_get 20 (v := (.ref (A5 1))) dX15_data_17 rfl fl_X15_323_11 u5_0 rfl ?_
  refine e_iconst 21 (v := (nI 0)) dX15_data_20 rfl (by decide) ?_
  refine v_iald 22 (r := (rZ (RS.map rsE))) u5_2 (k := 0) (x := (rE1 (RS.map rsE) 0).length) dX15_data_21 rfl (by rw [rZ_len]; omega) (by omega) rZ_at ?_
  refine e_iconst 23 (v := (nI 1)) dX15_data_22 rfl (by decide) ?_
  refine e_isub 24 (v := ((nI ((rE1 (RS.map rsE) 0).length)) - (nI 1))) dX15_data_23 rfl rfl ?_
  refine u_callS 27 dX15_data_24 rfl cs_X15_81 u_inI rfl rfl (Nat.le_of_ble_eq_true rfl) (by decide) ⟨by omega, by omega⟩ ?_
  refine e_if_eq 34 30 dX15_data_27 rfl rfl (fun c27 => absurd c27 (by rw [hin]; decide)) (fun c27 => ?_)
  refine e_iconst 31 (v := (nI 0)) dX15_data_30 rfl (by decide) ?_
  refine e_goto 35 dX15_data_31 rfl ?_
  refine p_put 38 hL 0 (fs' := moF F (upN (mW (tp, an, D, (fr, wv, hs), (v, RQ, RS, SC, er, mb), ck) th AN.length lt lf) 0 0) (decide (wv 5 ≠ 0))) (L' := [pt m (.inr (13, moF F (upN (mW (tp, an, D, (fr, wv, hs), (v, RQ, RS, SC, er, mb), ck) th AN.length lt lf) 0 0) (decide (wv 5 ≠ 0)))), pt (F 1) (.inl (6, 6, .inr (.inr (.inr (.inr (adD DL)))))), lst rdve DL, iar (F 3) 300 AN, iar (F 5) 260 PD, rst (F 6) er (v 20) (mb 1) (mb 2), rrw (F 12) 16 3 (RQ.map rqE), rrw (F 13) 32 5 (RS.map rsE), rrw (F 14) 8 4 (SC.map scE), iar (F 21) 260 fr, iar (F 31) 64 (hs.map (·.1)), iar (F 32) 64 (hs.map (·.2)), iar (F 34) 400 tp, iar (F 36) 300 an]) rfl rfl dX15_data_35 rfl fp_X15_73_13 (Or.inl rfl) (Nat.le_of_ble_eq_true rfl) rfl rfl rfl (fun h hL => ?_)
  refine e_aload_n 39 dX15_data_38 rfl rfl ?_
  refine e_get 42 (v := (.int (nI 0))) dX15_data_39 rfl fl_X15_73_13 (stars_at _ 0 hL rfl) rfl ?_
  refine e_if_le 49 45 dX15_data_42 rfl rfl (fun c42 => ?_) (fun c42 => absurd c42 (by decide))
  refine e_aload_n 50 dX15_data_49 rfl rfl ?_
  refine e_get 53 (v := (.ref (F 13))) dX15_data_50 rfl fl_X15_48_13 (stars_at _ 0 hL rfl) rfl ?_
  obtain ⟨A53, u53_0, u53_1, u53_2, u53_3, u53_4⟩ := rrw_V _ 7 hL rfl
  refine e_get 56 (v := (.ref (A53 0))) dX15_data_53 rfl fl_X15_321_11 u53_0 rfl ?_
  refine e_iconst 57 (v := (nI 0)) dX15_data_56 rfl (by decide) ?_
  refine v_aald 58 u53_1 (k := 0) dX15_data_57 rfl (by omega) (by omega) (fun b57 y57 => ?_)
  refine e_iload_n 59 dX15_data_58 rfl rfl ?_
  refine v_iald 60 (r := (rE1 (RS.map rsE) 0)) y57 (k := k) (x := ((rE1 (RS.map rsE) 0).getD k 0)) dX15_data_59 rfl (by rw [(rs_0 hrs).2]; exact hk) (by omega) rfl ?_
  exact e_iret dX15_data_60 rfl (by omega) (by omega) (⟨_, ⟨by rw [(rs_0 hrs).2], rfl⟩, rfo_c (g := (tp, an, D, (fr, wv, hs), (v, RQ, RS, SC, er, mb), ck)) (th := 0) (F := F) (lt := lt) (lf := lf) (AN := AN) (PD := PD) (DL := DL) (X := []) hc (stars_ixn hL 14 rfl [0, 1, 2, 3, 4, 5, 6, 7, 8, 9, 10, 11, 12, 13] (by decide) rfl)⟩)
set_option maxRecDepth 20000 in
set_option maxHeartbeats 2000000 in
theorem k_X15_data_o {m th : Nat} {tp an fr : List Nat} {D : List DS} {wv : Nat → Nat} {hs : List (Nat × Nat)} {v : Nat → Nat} {RQ : List RQE} {RS : List RSE} {SC : List SCE} {er : List Nat} {mb : Nat → Bool} {ck : Nat} {x : Int32} (hl3 : (RS.headD ([], 0, 0, 0, 0, 0)).1.length ≤ 253) (ho : RS.length = 0 ∨ dIn (RS.headD ([], 0, 0, 0, 0, 0)).1.length x = false) : CA mX15_data [.ref m, .int x] [rfo m (tp, an, D, (fr, wv, hs), (v, RQ, RS, SC, er, mb), ck) th] (fun r K => r = some (.int (nI 0)) ∧ K = [rfo m (tp, an, D, (fr, wv, hs), (v, RQ, RS, SC, er, mb), ck) 1]) 1 30 0 0 := by
  refine CA.mk 0 (ls := [some (.ref m), some (.int x)]) rfl rfl (Nat.le_of_ble_eq_true rfl) rfl (fun h hL => ?_)
  obtain ⟨F, lt, lf, AN, PD, DL, hc, hL⟩ := rfo_o hL
  have hL : stars [pt m (.inr (13, moF F (mW (tp, an, D, (fr, wv, hs), (v, RQ, RS, SC, er, mb), ck) th AN.length lt lf) (decide (wv 5 ≠ 0)))), pt (F 1) (.inl (6, 6, .inr (.inr (.inr (.inr (adD DL)))))), lst rdve DL, iar (F 3) 300 AN, iar (F 5) 260 PD, rst (F 6) er (v 20) (mb 1) (mb 2), rrw (F 12) 16 3 (RQ.map rqE), rrw (F 13) 32 5 (RS.map rsE), rrw (F 14) 8 4 (SC.map scE), iar (F 21) 260 fr, iar (F 31) 64 (hs.map (·.1)), iar (F 32) 64 (hs.map (·.2)), iar (F 34) 400 tp, iar (F 36) 300 an] h := hL
  have ltp := (iar_V _ 12 hL rfl).le
  have lan := (iar_V _ 13 hL rfl).le
  have lfr := (iar_V _ 9 hL rfl).le
  have lrs : RS.length ≤ 32 := by have z := (rrw_V _ 7 hL rfl).choose_spec.2.2.2.2; rw [List.length_map] at z; exact z
  have lrm : (RS.map rsE).length = RS.length := List.length_map _
  refine e_aload_n 1 dX15_data_0 rfl rfl ?_
  refine e_aload_n 2 dX15_data_1 rfl rfl ?_
  refine e_get 5 (v := (.ref (F 13))) dX15_data_2 rfl fl_X15_48_13 (stars_at _ 0 hL rfl) rfl ?_
  obtain ⟨A5, u5_0, u5_1, u5_2, u5_3, u5_4⟩ := rrw_V _ 7 hL rfl
  refine e_get 8 (v := (.int (nI (RS.map rsE).length))) dX15_data_5 rfl fl_X15_298_11 u5_0 rfl ?_
  refine e_if_le 34 11 dX15_data_8 rfl rfl (fun c8 => ?_) (fun c8 => ?_)
  · have k8 := j_le0_t (a := (RS.map rsE).length) (by omega) c8
    refine e_iconst 35 (v := (nI 1)) dX15_data_34 rfl (by decide) ?_
    refine p_put 38 hL 0 (fs' := moF F (upN (mW (tp, an, D, (fr, wv, hs), (v, RQ, RS, SC, er, mb), ck) th AN.length lt lf) 0 1) (decide (wv 5 ≠ 0))) (L' := [pt m (.inr (13, moF F (upN (mW (tp, an, D, (fr, wv, hs), (v, RQ, RS, SC, er, mb), ck) th AN.length lt lf) 0 1) (decide (wv 5 ≠ 0)))), pt (F 1) (.inl (6, 6, .inr (.inr (.inr (.inr (adD DL)))))), lst rdve DL, iar (F 3) 300 AN, iar (F 5) 260 PD, rst (F 6) er (v 20) (mb 1) (mb 2), rrw (F 12) 16 3 (RQ.map rqE), rrw (F 13) 32 5 (RS.map rsE), rrw (F 14) 8 4 (SC.map scE), iar (F 21) 260 fr, iar (F 31) 64 (hs.map (·.1)), iar (F 32) 64 (hs.map (·.2)), iar (F 34) 400 tp, iar (F 36) 300 an]) rfl rfl dX15_data_35 rfl fp_X15_73_13 (Or.inl rfl) (Nat.le_of_ble_eq_true rfl) rfl rfl rfl (fun h hL => ?_)
    refine e_aload_n 39 dX15_data_38 rfl rfl ?_
    refine e_get 42 (v := (.int (nI 1))) dX15_data_39 rfl fl_X15_73_13 (stars_at _ 0 hL rfl) rfl ?_
    refine e_if_le 49 45 dX15_data_42 rfl rfl (fun c42 => absurd c42 (by decide)) (fun c42 => ?_)
    refine e_iconst 46 (v := (nI 0)) dX15_data_45 rfl (by decide) ?_
    refine e_goto 60 dX15_data_46 rfl ?_
    exact e_iret dX15_data_60 rfl (by omega) (by omega) (⟨_, ⟨rfl, rfl⟩, rfo_c (g := (tp, an, D, (fr, wv, hs), (v, RQ, RS, SC, er, mb), ck)) (th := 1) (F := F) (lt := lt) (lf := lf) (AN := AN) (PD := PD) (DL := DL) (X := []) hc (stars_ixn hL 14 rfl [0, 1, 2, 3, 4, 5, 6, 7, 8, 9, 10, 11, 12, 13] (by decide) rfl)⟩)
  · have k8 := j_le0_f (a := (RS.map rsE).length) (by omega) c8
    have hrs : 0 < RS.length := by omega
    have hin : inI x (nI 0) (nI (rE1 (RS.map rsE) 0).length - nI 1) = false := by rw [(rs_0 hrs).2, dIn_in (by omega)]; exact ho.resolve_left (by omega)
    refine e_iload_n 12 dX15_data_11 rfl rfl ?_
    refine e_iconst 13 (v := (nI 0)) dX15_data_12 rfl (by decide) ?_
    refine e_aload_n 14 dX15_data_13 rfl rfl ?_
    refine e_get 17 (v := (.ref (F 13))) dX15_data_14 rfl fl_X15_48_13 (stars_at _ 0 hL rfl) rfl ?_
    refine e_get 20 (v := (.ref (A5 1))) dX15_data_17 rfl fl_X15_323_11 u5_0 rfl ?_
    refine e_iconst 21 (v := (nI 0)) dX15_data_20 rfl (by decide) ?_
    refine v_iald 22 (r := (rZ (RS.map rsE))) u5_2 (k := 0) (x := (rE1 (RS.map rsE) 0).length) dX15_data_21 rfl (by rw [rZ_len]; omega) (by omega) rZ_at ?_
    refine e_iconst 23 (v := (nI 1)) dX15_data_22 rfl (by decide) ?_
    refine e_isub 24 (v := ((nI ((rE1 (RS.map rsE) 0).length)) - (nI 1))) dX15_data_23 rfl rfl ?_
    refine u_callS 27 dX15_data_24 rfl cs_X15_81 u_inI rfl rfl (Nat.le_of_ble_eq_true rfl) (by decide) ⟨by omega, by omega⟩ ?_
    refine e_if_eq 34 30 dX15_data_27 rfl rfl (fun c27 => ?_) (fun c27 => absurd c27 (by rw [hin]; decide))
    refine e_iconst 35 (v := (nI 1)) dX15_data_34 rfl (by decide) ?_
    refine p_put 38 hL 0 (fs' := moF F (upN (mW (tp, an, D, (fr, wv, hs), (v, RQ, RS, SC, er, mb), ck) th AN.length lt lf) 0 1) (decide (wv 5 ≠ 0))) (L' := [pt m (.inr (13, moF F (upN (mW (tp, an, D, (fr, wv, hs), (v, RQ, RS, SC, er, mb), ck) th AN.length lt lf) 0 1) (decide (wv 5 ≠ 0)))), pt (F 1) (.inl (6, 6, .inr (.inr (.inr (.inr (adD DL)))))), lst rdve DL, iar (F 3) 300 AN, iar (F 5) 260 PD, rst (F 6) er (v 20) (mb 1) (mb 2), rrw (F 12) 16 3 (RQ.map rqE), rrw (F 13) 32 5 (RS.map rsE), rrw (F 14) 8 4 (SC.map scE), iar (F 21) 260 fr, iar (F 31) 64 (hs.map (·.1)), iar (F 32) 64 (hs.map (·.2)), iar (F 34) 400 tp, iar (F 36) 300 an]) rfl rfl dX15_data_35 rfl fp_X15_73_13 (Or.inl rfl) (Nat.le_of_ble_eq_true rfl) rfl rfl rfl (fun h hL => ?_)
    refine e_aload_n 39 dX15_data_38 rfl rfl ?_
    refine e_get 42 (v := (.int (nI 1))) dX15_data_39 rfl fl_X15_73_13 (stars_at _ 0 hL rfl) rfl ?_
    refine e_if_le 49 45 dX15_data_42 rfl rfl (fun c42 => absurd c42 (by decide)) (fun c42 => ?_)
    refine e_iconst 46 (v := (nI 0)) dX15_data_45 rfl (by decide) ?_
    refine e_goto 60 dX15_data_46 rfl ?_
    exact e_iret dX15_data_60 rfl (by omega) (by omega) (⟨_, ⟨rfl, rfl⟩, rfo_c (g := (tp, an, D, (fr, wv, hs), (v, RQ, RS, SC, er, mb), ck)) (th := 1) (F := F) (lt := lt) (lf := lf) (AN := AN) (PD := PD) (DL := DL) (X := []) hc (stars_ixn hL 14 rfl [0, 1, 2, 3, 4, 5, 6, 7, 8, 9, 10, 11, 12, 13] (by decide) rfl)⟩)
set_option maxRecDepth 20000 in
set_option maxHeartbeats 2000000 in
theorem k_X15_request {m th : Nat} {tp an fr : List Nat} {D : List DS} {wv : Nat → Nat} {hs : List (Nat × Nat)} {v : Nat → Nat} {RQ : List RQE} {RS : List RSE} {SC : List SCE} {er : List Nat} {mb : Nat → Bool} {ck : Nat} {x : Int32} : CA mX15_request [.ref m, .int x] [rfo m (tp, an, D, (fr, wv, hs), (v, RQ, RS, SC, er, mb), ck) th] (fun r K => r = some (.int (rqR (tp, an, D, (fr, wv, hs), (v, RQ, RS, SC, er, mb), ck) x)) ∧ K = [rfo m (rqG (tp, an, D, (fr, wv, hs), (v, RQ, RS, SC, er, mb), ck) x) 0]) 2 80 0 0 := by
  refine CA.mk 1 (ls := [some (.ref m), some (.int x), none]) rfl rfl (Nat.le_of_ble_eq_true rfl) rfl (fun h hL => ?_)
  obtain ⟨F, lt, lf, AN, PD, DL, hc, hL⟩ := rfo_o hL
  have hL : stars [pt m (.inr (13, moF F (mW (tp, an, D, (fr, wv, hs), (v, RQ, RS, SC, er, mb), ck) th AN.length lt lf) (decide (wv 5 ≠ 0)))), pt (F 1) (.inl (6, 6, .inr (.inr (.inr (.inr (adD DL)))))), lst rdve DL, iar (F 3) 300 AN, iar (F 5) 260 PD, rst (F 6) er (v 20) (mb 1) (mb 2), rrw (F 12) 16 3 (RQ.map rqE), rrw (F 13) 32 5 (RS.map rsE), rrw (F 14) 8 4 (SC.map scE), iar (F 21) 260 fr, iar (F 31) 64 (hs.map (·.1)), iar (F 32) 64 (hs.map (·.2)), iar (F 34) 400 tp, iar (F 36) 300 an] h := hL
  have ltp := (iar_V _ 12 hL rfl).le
  have lan := (iar_V _ 13 hL rfl).le
  have lfr := (iar_V _ 9 hL rfl).le
  have lrq : RQ.length ≤ 16 := by have z := (rrw_V _ 6 hL rfl).choose_spec.2.2.2.2; rw [List.length_map] at z; exact z
  have lqm : (RQ.map rqE).length = RQ.length := List.length_map _
  refine e_aload_n 1 dX15_request_0 rfl rfl ?_
  refine e_iconst 2 (v := (nI 0)) dX15_request_1 rfl (by decide) ?_
  refine p_put 5 hL 0 (fs' := moF F (upN (mW (tp, an, D, (fr, wv, hs), (v, RQ, RS, SC, er, mb), ck) th AN.length lt lf) 0 0) (decide (wv 5 ≠ 0))) (L' := [pt m (.inr (13, moF F (upN (mW (tp, an, D, (fr, wv, hs), (v, RQ, RS, SC, er, mb), ck) th AN.length lt lf) 0 0) (decide (wv 5 ≠ 0)))), pt (F 1) (.inl (6, 6, .inr (.inr (.inr (.inr (adD DL)))))), lst rdve DL, iar (F 3) 300 AN, iar (F 5) 260 PD, rst (F 6) er (v 20) (mb 1) (mb 2), rrw (F 12) 16 3 (RQ.map rqE), rrw (F 13) 32 5 (RS.map rsE), rrw (F 14) 8 4 (SC.map scE), iar (F 21) 260 fr, iar (F 31) 64 (hs.map (·.1)), iar (F 32) 64 (hs.map (·.2)), iar (F 34) 400 tp, iar (F 36) 300 an]) rfl rfl dX15_request_2 rfl fp_X15_73_13 (Or.inl rfl) (Nat.le_of_ble_eq_true rfl) rfl rfl rfl (fun h hL => ?_)
  refine e_iload_n 6 dX15_request_5 rfl rfl ?_
  refine e_iconst 7 (v := (nI 0)) dX15_request_6 rfl (by decide) ?_
  refine e_sipush 10 (v := (nI 247)) dX15_request_7 rfl (by decide) ?_
  refine u_callS 13 dX15_request_10 rfl cs_X15_81 u_inI rfl rfl (Nat.le_of_ble_eq_true rfl) (by decide) ⟨by omega, by omega⟩ ?_
  refine e_if_eq 42 16 dX15_request_13 rfl rfl (fun c13 => ?_) (fun c13 => ?_)
  · have k13 := jb_eq_t c13
    refine e_iconst 43 (v := (-1)) dX15_request_42 rfl (by decide) ?_
    exact e_iret dX15_request_43 rfl (by omega) (by omega) (⟨_, ⟨by rw [rqR, if_neg (show ¬ rqC (tp, an, D, (fr, wv, hs), (v, RQ, RS, SC, er, mb), ck) x = true by rw [show rqC (tp, an, D, (fr, wv, hs), (v, RQ, RS, SC, er, mb), ck) x = false by simp only [rqC, k13, Bool.false_and]]; decide)], by rw [rqG, if_neg (show ¬ rqC (tp, an, D, (fr, wv, hs), (v, RQ, RS, SC, er, mb), ck) x = true by rw [show rqC (tp, an, D, (fr, wv, hs), (v, RQ, RS, SC, er, mb), ck) x = false by simp only [rqC, k13, Bool.false_and]]; decide)]⟩, rfo_c (g := (tp, an, D, (fr, wv, hs), (v, RQ, RS, SC, er, mb), ck)) (th := 0) (F := F) (lt := lt) (lf := lf) (AN := AN) (PD := PD) (DL := DL) (X := []) hc (stars_ixn hL 14 rfl [0, 1, 2, 3, 4, 5, 6, 7, 8, 9, 10, 11, 12, 13] (by decide) rfl)⟩)
  · have k13 := jb_eq_f c13
    obtain ⟨n, rfl, na, nb⟩ := inI_nat (by first | decide | omega) (by first | decide | omega) k13
    have nc : (nI n).toNatClampNeg = n := nI_clamp (by omega)
    refine e_aload_n 17 dX15_request_16 rfl rfl ?_
    refine e_get 20 (v := (.int (nI tp.length))) dX15_request_17 rfl fl_X15_432_13 (stars_at _ 0 hL rfl) rfl ?_
    refine e_iconst 21 (v := (nI 1)) dX15_request_20 rfl (by decide) ?_
    refine e_sipush 24 (v := (nI 253)) dX15_request_21 rfl (by decide) ?_
    refine u_callS 27 dX15_request_24 rfl cs_X15_81 (u_inN (by omega) (by omega) (by omega)) rfl rfl (Nat.le_of_ble_eq_true rfl) (by decide) ⟨by omega, by omega⟩ ?_
    refine e_if_eq 42 30 dX15_request_27 rfl rfl (fun c27 => ?_) (fun c27 => ?_)
    · have k27 := jin_eq_t c27
      refine e_iconst 43 (v := (-1)) dX15_request_42 rfl (by decide) ?_
      exact e_iret dX15_request_43 rfl (by omega) (by omega) (⟨_, ⟨by rw [rqR, if_neg (show ¬ rqC (tp, an, D, (fr, wv, hs), (v, RQ, RS, SC, er, mb), ck) (nI n) = true by rw [show rqC (tp, an, D, (fr, wv, hs), (v, RQ, RS, SC, er, mb), ck) (nI n) = false by simp only [rqC, k13, Bool.true_and, inN, Bool.and_eq_false_iff, decide_eq_false_iff_not]; omega]; decide)], by rw [rqG, if_neg (show ¬ rqC (tp, an, D, (fr, wv, hs), (v, RQ, RS, SC, er, mb), ck) (nI n) = true by rw [show rqC (tp, an, D, (fr, wv, hs), (v, RQ, RS, SC, er, mb), ck) (nI n) = false by simp only [rqC, k13, Bool.true_and, inN, Bool.and_eq_false_iff, decide_eq_false_iff_not]; omega]; decide)]⟩, rfo_c (g := (tp, an, D, (fr, wv, hs), (v, RQ, RS, SC, er, mb), ck)) (th := 0) (F := F) (lt := lt) (lf := lf) (AN := AN) (PD := PD) (DL := DL) (X := []) hc (stars_ixn hL 14 rfl [0, 1, 2, 3, 4, 5, 6, 7, 8, 9, 10, 11, 12, 13] (by decide) rfl)⟩)
    · have k27 := jin_eq_f c27
      refine e_aload_n 31 dX15_request_30 rfl rfl ?_
      refine e_get 34 (v := (.ref (F 12))) dX15_request_31 rfl fl_X15_44_13 (stars_at _ 0 hL rfl) rfl ?_
      obtain ⟨A34, u34_0, u34_1, u34_2, u34_3, u34_4⟩ := rrw_V _ 6 hL rfl
      refine e_get 37 (v := (.int (nI (RQ.map rqE).length))) dX15_request_34 rfl fl_X15_298_11 u34_0 rfl ?_
      refine e_bipush 39 (v := (nI 16)) dX15_request_37 rfl (by decide) ?_
      refine e_icmp_ne 44 42 dX15_request_39 rfl rfl (fun c39 => ?_) (fun c39 => ?_)
      · have k39 := j_ne_t (a := (RQ.map rqE).length) (b := 16) (by omega) (by omega) c39
        refine e_aload_n 45 dX15_request_44 rfl rfl ?_
        refine e_iload_n 46 dX15_request_45 rfl rfl ?_
        refine e_aload_n 47 dX15_request_46 rfl rfl ?_
        refine e_get 50 (v := (.ref (F 34))) dX15_request_47 rfl fl_X15_66_13 (stars_at _ 0 hL rfl) rfl ?_
        refine e_aload_n 51 dX15_request_50 rfl rfl ?_
        refine e_get 54 (v := (.int (nI tp.length))) dX15_request_51 rfl fl_X15_432_13 (stars_at _ 0 hL rfl) rfl ?_
        have hL : stars [pt m (.inr (13, moF F (upN (upN (mW (tp, an, D, (fr, wv, hs), (v, RQ, RS, SC, er, mb), ck) th AN.length lt lf) 0 0) 15 (v 9)) (decide (wv 5 ≠ 0)))), pt (F 1) (.inl (6, 6, .inr (.inr (.inr (.inr (adD DL)))))), lst rdve DL, iar (F 3) 300 AN, iar (F 5) 260 PD, rst (F 6) er (v 20) (mb 1) (mb 2), rrw (F 12) 16 3 (RQ.map rqE), rrw (F 13) 32 5 (RS.map rsE), rrw (F 14) 8 4 (SC.map scE), iar (F 21) 260 fr, iar (F 31) 64 (hs.map (·.1)), iar (F 32) 64 (hs.map (·.2)), iar (F 34) 400 tp, iar (F 36) 300 an] h := hL
        refine p_callV 57 hL [0, 6, 12, 1, 2, 3, 4, 5, 7, 8, 9, 10, 11, 13] 14 rfl (by decide) (L1 := [pt m (.inr (13, moF F (upN (upN (mW (tp, an, D, (fr, wv, hs), (v, RQ, RS, SC, er, mb), ck) th AN.length lt lf) 0 0) 15 (v 9)) (decide (wv 5 ≠ 0)))), rrw (F 12) 16 3 (RQ.map rqE), iar (F 34) 400 tp]) (L2 := [pt (F 1) (.inl (6, 6, .inr (.inr (.inr (.inr (adD DL)))))), lst rdve DL, iar (F 3) 300 AN, iar (F 5) 260 PD, rst (F 6) er (v 20) (mb 1) (mb 2), rrw (F 13) 32 5 (RS.map rsE), rrw (F 14) 8 4 (SC.map scE), iar (F 21) 260 fr, iar (F 31) 64 (hs.map (·.1)), iar (F 32) 64 (hs.map (·.2)), iar (F 36) 300 an]) rfl isO_pt 0 rfl dX15_request_54 rfl cv_X15_368 (k_X15_newRequest (w := (upN (mW (tp, an, D, (fr, wv, hs), (v, RQ, RS, SC, er, mb), ck) th AN.length lt lf) 0 0)) (nx := v 9) (ad := n) (c := tp.length) (by omega) (by omega) (Nat.le_refl _) (by decide)) rfl rfl (Nat.le_of_ble_eq_true rfl) ⟨by decide, by omega, by omega⟩ (fun r1 L1 h q hL => ?_)
        obtain ⟨rfl, rfl⟩ := q
        have hL : stars [pt m (.inr (13, moF F (upN (upN (mW (tp, an, D, (fr, wv, hs), (v, RQ, RS, SC, er, mb), ck) th AN.length lt lf) 0 0) 15 (v 9 + 1)) (decide (wv 5 ≠ 0)))), rrw (F 12) 16 3 (RQ.map rqE ++ [(pf tp 0 tp.length, [n, v 9, 0])]), iar (F 34) 400 tp, pt (F 1) (.inl (6, 6, .inr (.inr (.inr (.inr (adD DL)))))), lst rdve DL, iar (F 3) 300 AN, iar (F 5) 260 PD, rst (F 6) er (v 20) (mb 1) (mb 2), rrw (F 13) 32 5 (RS.map rsE), rrw (F 14) 8 4 (SC.map scE), iar (F 21) 260 fr, iar (F 31) 64 (hs.map (·.1)), iar (F 32) 64 (hs.map (·.2)), iar (F 36) 300 an] h := hL
        have hL : stars [pt m (.inr (13, moF F (upN (upN (mW (tp, an, D, (fr, wv, hs), (v, RQ, RS, SC, er, mb), ck) th AN.length lt lf) 0 0) 15 (v 9 + 1)) (decide (wv 5 ≠ 0)))), pt (F 1) (.inl (6, 6, .inr (.inr (.inr (.inr (adD DL)))))), lst rdve DL, iar (F 3) 300 AN, iar (F 5) 260 PD, rst (F 6) er (v 20) (mb 1) (mb 2), rrw (F 12) 16 3 (RQ.map rqE ++ [(pf tp 0 tp.length, [n, v 9, 0])]), rrw (F 13) 32 5 (RS.map rsE), rrw (F 14) 8 4 (SC.map scE), iar (F 21) 260 fr, iar (F 31) 64 (hs.map (·.1)), iar (F 32) 64 (hs.map (·.2)), iar (F 34) 400 tp, iar (F 36) 300 an] h := stars_ixn hL 14 rfl [0, 3, 4, 5, 6, 7, 1, 8, 9, 10, 11, 12, 2, 13] (by decide) rfl
        have eq9 : RQ.map rqE ++ [(pf tp 0 tp.length, [n, v 9, 0])] = (RQ ++ [((tp, v 9, n, 0) : RQE)]).map rqE := by rw [List.map_append, pf_all]; rfl
        rw [eq9] at hL
        have hL : stars [pt m (.inr (13, moF F (upN (upN (mW (tp, an, D, (fr, wv, hs), (v, RQ, RS, SC, er, mb), ck) th AN.length lt lf) 0 0) 15 (v 9 + 1)) (decide (wv 5 ≠ 0)))), pt (F 1) (.inl (6, 6, .inr (.inr (.inr (.inr (adD DL)))))), lst rdve DL, iar (F 3) 300 AN, iar (F 5) 260 PD, rst (F 6) er (v 20) (mb 1) (mb 2), rrw (F 12) 16 3 ((RQ ++ [((tp, v 9, n, 0) : RQE)]).map rqE), rrw (F 13) 32 5 (RS.map rsE), rrw (F 14) 8 4 (SC.map scE), iar (F 21) 260 fr, iar (F 31) 64 (hs.map (·.1)), iar (F 32) 64 (hs.map (·.2)), iar (F 34) 400 tp, iar (F 36) 300 an] h := hL
        refine e_istore_n 58 (ls' := [some (.ref m), some (.int (nI n)), some (.int (nI (v 9)))]) dX15_request_57 rfl (by decide) rfl ?_
        have hL : stars [pt m (.inr (13, moF F (upN (upN (mW (tp, an, D, (fr, wv, hs), (v, RQ, RS, SC, er, mb), ck) th AN.length lt lf) 0 0) 15 (v 9 + 1)) (decide (wv 5 ≠ 0)))), pt (F 1) (.inl (6, 6, .inr (.inr (.inr (.inr (adD DL)))))), lst rdve DL, iar (F 3) 300 AN, iar (F 5) 260 PD, rst (F 6) er (v 20) (mb 1) (mb 2), rrw (F 12) 16 3 ((RQ ++ [((tp, v 9, n, 0) : RQE)]).map rqE), rrw (F 13) 32 5 (RS.map rsE), rrw (F 14) 8 4 (SC.map scE), iar (F 21) 260 fr, iar (F 31) 64 (hs.map (·.1)), iar (F 32) 64 (hs.map (·.2)), iar (F 34) 400 ([]), iar (F 36) 300 an] h := iar_em 12 hL rfl rfl
        refine e_aload_n 59 dX15_request_58 rfl rfl ?_
        refine e_iconst 60 (v := (nI 0)) dX15_request_59 rfl (by decide) ?_
        refine p_put 63 hL 0 (fs' := moF F (upN (upN (upN (mW (tp, an, D, (fr, wv, hs), (v, RQ, RS, SC, er, mb), ck) th AN.length lt lf) 0 0) 15 (v 9 + 1)) 35 0) (decide (wv 5 ≠ 0))) (L' := [pt m (.inr (13, moF F (upN (upN (upN (mW (tp, an, D, (fr, wv, hs), (v, RQ, RS, SC, er, mb), ck) th AN.length lt lf) 0 0) 15 (v 9 + 1)) 35 0) (decide (wv 5 ≠ 0)))), pt (F 1) (.inl (6, 6, .inr (.inr (.inr (.inr (adD DL)))))), lst rdve DL, iar (F 3) 300 AN, iar (F 5) 260 PD, rst (F 6) er (v 20) (mb 1) (mb 2), rrw (F 12) 16 3 ((RQ ++ [((tp, v 9, n, 0) : RQE)]).map rqE), rrw (F 13) 32 5 (RS.map rsE), rrw (F 14) 8 4 (SC.map scE), iar (F 21) 260 fr, iar (F 31) 64 (hs.map (·.1)), iar (F 32) 64 (hs.map (·.2)), iar (F 34) 400 ([]), iar (F 36) 300 an]) rfl rfl dX15_request_60 rfl fp_X15_432_13 (Or.inl rfl) (Nat.le_of_ble_eq_true rfl) rfl rfl rfl (fun h hL => ?_)
        refine e_iload_n 64 dX15_request_63 rfl rfl ?_
        exact e_iret dX15_request_64 rfl (by omega) (by omega) (⟨_, ⟨by rw [rqR, if_pos (show rqC (tp, an, D, (fr, wv, hs), (v, RQ, RS, SC, er, mb), ck) (nI n) = true by simp only [rqC, k13, Bool.true_and, inN, Bool.and_eq_true, decide_eq_true_eq]; omega)], by rw [rqG, if_pos (show rqC (tp, an, D, (fr, wv, hs), (v, RQ, RS, SC, er, mb), ck) (nI n) = true by simp only [rqC, k13, Bool.true_and, inN, Bool.and_eq_true, decide_eq_true_eq]; omega), nc, arS, if_pos (show RQ.length < 16 by omega)]⟩, rfo_c (g := ([], an, D, (fr, wv, hs), (upN v 9 (v 9 + 1), RQ ++ [(tp, v 9, n, 0)], RS, SC, er, mb), ck)) (th := 0) (F := F) (lt := lt) (lf := lf) (AN := AN) (PD := PD) (DL := DL) (X := []) hc (stars_ixn hL 14 rfl [0, 1, 2, 3, 4, 5, 6, 7, 8, 9, 10, 11, 12, 13] (by decide) rfl)⟩)
      · have k39 := j_ne_f (a := (RQ.map rqE).length) (b := 16) (by omega) (by omega) c39
        refine e_iconst 43 (v := (-1)) dX15_request_42 rfl (by decide) ?_
        exact e_iret dX15_request_43 rfl (by omega) (by omega) (⟨_, ⟨by rw [rqR, if_neg (show ¬ rqC (tp, an, D, (fr, wv, hs), (v, RQ, RS, SC, er, mb), ck) (nI n) = true by rw [show rqC (tp, an, D, (fr, wv, hs), (v, RQ, RS, SC, er, mb), ck) (nI n) = false by simp only [rqC, k13, Bool.true_and, inN, Bool.and_eq_false_iff, decide_eq_false_iff_not]; omega]; decide)], by rw [rqG, if_neg (show ¬ rqC (tp, an, D, (fr, wv, hs), (v, RQ, RS, SC, er, mb), ck) (nI n) = true by rw [show rqC (tp, an, D, (fr, wv, hs), (v, RQ, RS, SC, er, mb), ck) (nI n) = false by simp only [rqC, k13, Bool.true_and, inN, Bool.and_eq_false_iff, decide_eq_false_iff_not]; omega]; decide)]⟩, rfo_c (g := (tp, an, D, (fr, wv, hs), (v, RQ, RS, SC, er, mb), ck)) (th := 0) (F := F) (lt := lt) (lf := lf) (AN := AN) (PD := PD) (DL := DL) (X := []) hc (stars_ixn hL 14 rfl [0, 1, 2, 3, 4, 5, 6, 7, 8, 9, 10, 11, 12, 13] (by decide) rfl)⟩)
set_option maxRecDepth 20000 in
set_option maxHeartbeats 2000000 in
theorem k_X15_scan_ {m th : Nat} {tp an fr : List Nat} {D : List DS} {wv : Nat → Nat} {hs : List (Nat × Nat)} {v : Nat → Nat} {RQ : List RQE} {RS : List RSE} {SC : List SCE} {er : List Nat} {mb : Nat → Bool} {ck : Nat} {x1 x2 : Int32} (hck : ck < 2 ^ 29) : CA mX15_scan_ [.ref m, .int x1, .int x2] [rfo m (tp, an, D, (fr, wv, hs), (v, RQ, RS, SC, er, mb), ck) th] (fun r K => r = some (.int (snR (tp, an, D, (fr, wv, hs), (v, RQ, RS, SC, er, mb), ck) x1 x2)) ∧ K = [rfo m (snG (tp, an, D, (fr, wv, hs), (v, RQ, RS, SC, er, mb), ck) x1 x2) 0]) 1 60 0 0 := by
  refine CA.mk 1 (ls := [some (.ref m), some (.int x1), some (.int x2), none]) rfl rfl (Nat.le_of_ble_eq_true rfl) rfl (fun h hL => ?_)
  obtain ⟨F, lt, lf, AN, PD, DL, hc, hL⟩ := rfo_o hL
  have hL : stars [pt m (.inr (13, moF F (mW (tp, an, D, (fr, wv, hs), (v, RQ, RS, SC, er, mb), ck) th AN.length lt lf) (decide (wv 5 ≠ 0)))), pt (F 1) (.inl (6, 6, .inr (.inr (.inr (.inr (adD DL)))))), lst rdve DL, iar (F 3) 300 AN, iar (F 5) 260 PD, rst (F 6) er (v 20) (mb 1) (mb 2), rrw (F 12) 16 3 (RQ.map rqE), rrw (F 13) 32 5 (RS.map rsE), rrw (F 14) 8 4 (SC.map scE), iar (F 21) 260 fr, iar (F 31) 64 (hs.map (·.1)), iar (F 32) 64 (hs.map (·.2)), iar (F 34) 400 tp, iar (F 36) 300 an] h := hL
  have ltp := (iar_V _ 12 hL rfl).le
  have lan := (iar_V _ 13 hL rfl).le
  have lfr := (iar_V _ 9 hL rfl).le
  have lsc : SC.length ≤ 8 := by have z := (rrw_V _ 8 hL rfl).choose_spec.2.2.2.2; rw [List.length_map] at z; exact z
  have lsm : (SC.map scE).length = SC.length := List.length_map _
  refine e_aload_n 1 dX15_scan__0 rfl rfl ?_
  refine e_iconst 2 (v := (nI 0)) dX15_scan__1 rfl (by decide) ?_
  refine p_put 5 hL 0 (fs' := moF F (upN (mW (tp, an, D, (fr, wv, hs), (v, RQ, RS, SC, er, mb), ck) th AN.length lt lf) 0 0) (decide (wv 5 ≠ 0))) (L' := [pt m (.inr (13, moF F (upN (mW (tp, an, D, (fr, wv, hs), (v, RQ, RS, SC, er, mb), ck) th AN.length lt lf) 0 0) (decide (wv 5 ≠ 0)))), pt (F 1) (.inl (6, 6, .inr (.inr (.inr (.inr (adD DL)))))), lst rdve DL, iar (F 3) 300 AN, iar (F 5) 260 PD, rst (F 6) er (v 20) (mb 1) (mb 2), rrw (F 12) 16 3 (RQ.map rqE), rrw (F 13) 32 5 (RS.map rsE), rrw (F 14) 8 4 (SC.map scE), iar (F 21) 260 fr, iar (F 31) 64 (hs.map (·.1)), iar (F 32) 64 (hs.map (·.2)), iar (F 34) 400 tp, iar (F 36) 300 an]) rfl rfl dX15_scan__2 rfl fp_X15_73_13 (Or.inl rfl) (Nat.le_of_ble_eq_true rfl) rfl rfl rfl (fun h hL => ?_)
  refine e_iload_n 6 dX15_scan__5 rfl rfl ?_
  refine e_bipush 8 (v := (nI 50)) dX15_scan__6 rfl (by decide) ?_
  refine e_sipush 11 (v := (nI 30000)) dX15_scan__8 rfl (by decide) ?_
  refine u_callS 14 dX15_scan__11 rfl cs_X15_81 u_inI rfl rfl (Nat.le_of_ble_eq_true rfl) (by decide) ⟨by omega, by omega⟩ ?_
  refine e_if_eq 54 17 dX15_scan__14 rfl rfl (fun c14 => ?_) (fun c14 => ?_)
  · have k14 := jb_eq_t c14
    refine e_iconst 55 (v := (-1)) dX15_scan__54 rfl (by decide) ?_
    exact e_iret dX15_scan__55 rfl (by omega) (by omega) (⟨_, ⟨by rw [snR, if_neg (show ¬ snC (tp, an, D, (fr, wv, hs), (v, RQ, RS, SC, er, mb), ck) x1 x2 = true by rw [show snC (tp, an, D, (fr, wv, hs), (v, RQ, RS, SC, er, mb), ck) x1 x2 = false by simp only [snC, k14, Bool.false_and]]; decide)], by rw [snG, if_neg (show ¬ snC (tp, an, D, (fr, wv, hs), (v, RQ, RS, SC, er, mb), ck) x1 x2 = true by rw [show snC (tp, an, D, (fr, wv, hs), (v, RQ, RS, SC, er, mb), ck) x1 x2 = false by simp only [snC, k14, Bool.false_and]]; decide)]⟩, rfo_c (g := (tp, an, D, (fr, wv, hs), (v, RQ, RS, SC, er, mb), ck)) (th := 0) (F := F) (lt := lt) (lf := lf) (AN := AN) (PD := PD) (DL := DL) (X := []) hc (stars_ixn hL 14 rfl [0, 1, 2, 3, 4, 5, 6, 7, 8, 9, 10, 11, 12, 13] (by decide) rfl)⟩)
  · have k14 := jb_eq_f c14
    obtain ⟨e, rfl, ea, eb⟩ := inI_nat (by first | decide | omega) (by first | decide | omega) k14
    have ec : (nI e).toNatClampNeg = e := nI_clamp (by omega)
    refine e_iload_n 18 dX15_scan__17 rfl rfl ?_
    refine e_iconst 19 (v := (nI 0)) dX15_scan__18 rfl (by decide) ?_
    refine e_sipush 22 (v := (nI 247)) dX15_scan__19 rfl (by decide) ?_
    refine u_callS 25 dX15_scan__22 rfl cs_X15_81 u_inI rfl rfl (Nat.le_of_ble_eq_true rfl) (by decide) ⟨by omega, by omega⟩ ?_
    refine e_if_eq 54 28 dX15_scan__25 rfl rfl (fun c25 => ?_) (fun c25 => ?_)
    · have k25 := jb_eq_t c25
      refine e_iconst 55 (v := (-1)) dX15_scan__54 rfl (by decide) ?_
      exact e_iret dX15_scan__55 rfl (by omega) (by omega) (⟨_, ⟨by rw [snR, if_neg (show ¬ snC (tp, an, D, (fr, wv, hs), (v, RQ, RS, SC, er, mb), ck) (nI e) x2 = true by rw [show snC (tp, an, D, (fr, wv, hs), (v, RQ, RS, SC, er, mb), ck) (nI e) x2 = false by simp only [snC, k14, k25, Bool.true_and, Bool.false_and]]; decide)], by rw [snG, if_neg (show ¬ snC (tp, an, D, (fr, wv, hs), (v, RQ, RS, SC, er, mb), ck) (nI e) x2 = true by rw [show snC (tp, an, D, (fr, wv, hs), (v, RQ, RS, SC, er, mb), ck) (nI e) x2 = false by simp only [snC, k14, k25, Bool.true_and, Bool.false_and]]; decide)]⟩, rfo_c (g := (tp, an, D, (fr, wv, hs), (v, RQ, RS, SC, er, mb), ck)) (th := 0) (F := F) (lt := lt) (lf := lf) (AN := AN) (PD := PD) (DL := DL) (X := []) hc (stars_ixn hL 14 rfl [0, 1, 2, 3, 4, 5, 6, 7, 8, 9, 10, 11, 12, 13] (by decide) rfl)⟩)
    · have k25 := jb_eq_f c25
      obtain ⟨n, rfl, na, nb⟩ := inI_nat (by first | decide | omega) (by first | decide | omega) k25
      have nc : (nI n).toNatClampNeg = n := nI_clamp (by omega)
      refine e_aload_n 29 dX15_scan__28 rfl rfl ?_
      refine e_get 32 (v := (.int (nI tp.length))) dX15_scan__29 rfl fl_X15_432_13 (stars_at _ 0 hL rfl) rfl ?_
      refine e_iconst 33 (v := (nI 1)) dX15_scan__32 rfl (by decide) ?_
      refine e_sipush 36 (v := (nI 253)) dX15_scan__33 rfl (by decide) ?_
      refine u_callS 39 dX15_scan__36 rfl cs_X15_81 (u_inN (by omega) (by omega) (by omega)) rfl rfl (Nat.le_of_ble_eq_true rfl) (by decide) ⟨by omega, by omega⟩ ?_
      refine e_if_eq 54 42 dX15_scan__39 rfl rfl (fun c39 => ?_) (fun c39 => ?_)
      · have k39 := jin_eq_t c39
        refine e_iconst 55 (v := (-1)) dX15_scan__54 rfl (by decide) ?_
        exact e_iret dX15_scan__55 rfl (by omega) (by omega) (⟨_, ⟨by rw [snR, if_neg (show ¬ snC (tp, an, D, (fr, wv, hs), (v, RQ, RS, SC, er, mb), ck) (nI e) (nI n) = true by rw [show snC (tp, an, D, (fr, wv, hs), (v, RQ, RS, SC, er, mb), ck) (nI e) (nI n) = false by simp only [snC, k14, k25, Bool.true_and, inN, Bool.and_eq_false_iff, decide_eq_false_iff_not]; omega]; decide)], by rw [snG, if_neg (show ¬ snC (tp, an, D, (fr, wv, hs), (v, RQ, RS, SC, er, mb), ck) (nI e) (nI n) = true by rw [show snC (tp, an, D, (fr, wv, hs), (v, RQ, RS, SC, er, mb), ck) (nI e) (nI n) = false by simp only [snC, k14, k25, Bool.true_and, inN, Bool.and_eq_false_iff, decide_eq_false_iff_not]; omega]; decide)]⟩, rfo_c (g := (tp, an, D, (fr, wv, hs), (v, RQ, RS, SC, er, mb), ck)) (th := 0) (F := F) (lt := lt) (lf := lf) (AN := AN) (PD := PD) (DL := DL) (X := []) hc (stars_ixn hL 14 rfl [0, 1, 2, 3, 4, 5, 6, 7, 8, 9, 10, 11, 12, 13] (by decide) rfl)⟩)
      · have k39 := jin_eq_f c39
        refine e_aload_n 43 dX15_scan__42 rfl rfl ?_
        refine e_get 46 (v := (.ref (F 14))) dX15_scan__43 rfl fl_X15_51_13 (stars_at _ 0 hL rfl) rfl ?_
        obtain ⟨A46, u46_0, u46_1, u46_2, u46_3, u46_4⟩ := rrw_V _ 8 hL rfl
        refine e_get 49 (v := (.int (nI (SC.map scE).length))) dX15_scan__46 rfl fl_X15_298_11 u46_0 rfl ?_
        refine e_bipush 51 (v := (nI 8)) dX15_scan__49 rfl (by decide) ?_
        refine e_icmp_ne 56 54 dX15_scan__51 rfl rfl (fun c51 => ?_) (fun c51 => ?_)
        · have k51 := j_ne_t (a := (SC.map scE).length) (b := 8) (by omega) (by omega) c51
          refine e_aload_n 57 dX15_scan__56 rfl rfl ?_
          refine e_get 60 (v := (.ref (F 14))) dX15_scan__57 rfl fl_X15_51_13 (stars_at _ 0 hL rfl) rfl ?_
          refine e_aload_n 61 dX15_scan__60 rfl rfl ?_
          refine e_get 64 (v := (.ref (F 34))) dX15_scan__61 rfl fl_X15_66_13 (stars_at _ 0 hL rfl) rfl ?_
          refine e_iconst 65 (v := (nI 0)) dX15_scan__64 rfl (by decide) ?_
          refine e_aload_n 66 dX15_scan__65 rfl rfl ?_
          refine e_get 69 (v := (.int (nI tp.length))) dX15_scan__66 rfl fl_X15_432_13 (stars_at _ 0 hL rfl) rfl ?_
          refine p_callV 72 hL [8, 12, 0, 1, 2, 3, 4, 5, 6, 7, 9, 10, 11, 13] 14 rfl (by decide) (L1 := [rrw (F 14) 8 4 (SC.map scE), iar (F 34) 400 tp]) (L2 := [pt m (.inr (13, moF F (upN (mW (tp, an, D, (fr, wv, hs), (v, RQ, RS, SC, er, mb), ck) th AN.length lt lf) 0 0) (decide (wv 5 ≠ 0)))), pt (F 1) (.inl (6, 6, .inr (.inr (.inr (.inr (adD DL)))))), lst rdve DL, iar (F 3) 300 AN, iar (F 5) 260 PD, rst (F 6) er (v 20) (mb 1) (mb 2), rrw (F 12) 16 3 (RQ.map rqE), rrw (F 13) 32 5 (RS.map rsE), iar (F 21) 260 fr, iar (F 31) 64 (hs.map (·.1)), iar (F 32) 64 (hs.map (·.2)), iar (F 36) 300 an]) rfl rrw_O 8 rfl dX15_scan__69 rfl cv_X15_288 (k_X13_adds (t := 0) (c := tp.length) (by omega) (by decide) (by omega) (by omega) (by decide)) rfl rfl (Nat.le_of_ble_eq_true rfl) ⟨by decide, by omega, by omega⟩ (fun r1 L1 h q hL => ?_)
          obtain ⟨rfl, rfl⟩ := q
          have hL : stars [rrw (F 14) 8 4 ((SC.map scE) ++ [(pf tp 0 tp.length, [])]), iar (F 34) 400 tp, pt m (.inr (13, moF F (upN (mW (tp, an, D, (fr, wv, hs), (v, RQ, RS, SC, er, mb), ck) th AN.length lt lf) 0 0) (decide (wv 5 ≠ 0)))), pt (F 1) (.inl (6, 6, .inr (.inr (.inr (.inr (adD DL)))))), lst rdve DL, iar (F 3) 300 AN, iar (F 5) 260 PD, rst (F 6) er (v 20) (mb 1) (mb 2), rrw (F 12) 16 3 (RQ.map rqE), rrw (F 13) 32 5 (RS.map rsE), iar (F 21) 260 fr, iar (F 31) 64 (hs.map (·.1)), iar (F 32) 64 (hs.map (·.2)), iar (F 36) 300 an] h := hL
          have hL : stars [pt m (.inr (13, moF F (upN (mW (tp, an, D, (fr, wv, hs), (v, RQ, RS, SC, er, mb), ck) th AN.length lt lf) 0 0) (decide (wv 5 ≠ 0)))), pt (F 1) (.inl (6, 6, .inr (.inr (.inr (.inr (adD DL)))))), lst rdve DL, iar (F 3) 300 AN, iar (F 5) 260 PD, rst (F 6) er (v 20) (mb 1) (mb 2), rrw (F 12) 16 3 (RQ.map rqE), rrw (F 13) 32 5 (RS.map rsE), rrw (F 14) 8 4 ((SC.map scE) ++ [(pf tp 0 tp.length, [])]), iar (F 21) 260 fr, iar (F 31) 64 (hs.map (·.1)), iar (F 32) 64 (hs.map (·.2)), iar (F 34) 400 tp, iar (F 36) 300 an] h := stars_ixn hL 14 rfl [2, 3, 4, 5, 6, 7, 8, 9, 0, 10, 11, 12, 1, 13] (by decide) rfl
          refine e_istore_n 73 (ls' := [some (.ref m), some (.int (nI e)), some (.int (nI n)), some (.int (nI (SC.map scE).length))]) dX15_scan__72 rfl (by decide) rfl ?_
          have hL : stars [rrw (F 14) 8 4 ((SC.map scE) ++ [(pf tp 0 tp.length, [])]), pt m (.inr (13, moF F (upN (mW (tp, an, D, (fr, wv, hs), (v, RQ, RS, SC, er, mb), ck) th AN.length lt lf) 0 0) (decide (wv 5 ≠ 0)))), pt (F 1) (.inl (6, 6, .inr (.inr (.inr (.inr (adD DL)))))), lst rdve DL, iar (F 3) 300 AN, iar (F 5) 260 PD, rst (F 6) er (v 20) (mb 1) (mb 2), rrw (F 12) 16 3 (RQ.map rqE), rrw (F 13) 32 5 (RS.map rsE), iar (F 21) 260 fr, iar (F 31) 64 (hs.map (·.1)), iar (F 32) 64 (hs.map (·.2)), iar (F 34) 400 tp, iar (F 36) 300 an] h := stars_ixn hL 14 rfl [8, 0, 1, 2, 3, 4, 5, 6, 7, 9, 10, 11, 12, 13] (by decide) rfl
          obtain ⟨A, hnA, hL⟩ := rrw_o hL
          have hL : stars [pt (F 14) (.inr (11, [.ref (A 0), .ref (A 1), .ref (A 2), .int (nI ((SC.map scE) ++ [(pf tp 0 tp.length, [])]).length)])), grd (A 0) 8 256 (rE1 ((SC.map scE) ++ [(pf tp 0 tp.length, [])])), iar (A 1) 8 (rZ ((SC.map scE) ++ [(pf tp 0 tp.length, [])])), grd (A 2) 8 4 (rE2 ((SC.map scE) ++ [(pf tp 0 tp.length, [])])), pt m (.inr (13, moF F (upN (mW (tp, an, D, (fr, wv, hs), (v, RQ, RS, SC, er, mb), ck) th AN.length lt lf) 0 0) (decide (wv 5 ≠ 0)))), pt (F 1) (.inl (6, 6, .inr (.inr (.inr (.inr (adD DL)))))), lst rdve DL, iar (F 3) 300 AN, iar (F 5) 260 PD, rst (F 6) er (v 20) (mb 1) (mb 2), rrw (F 12) 16 3 (RQ.map rqE), rrw (F 13) 32 5 (RS.map rsE), iar (F 21) 260 fr, iar (F 31) 64 (hs.map (·.1)), iar (F 32) 64 (hs.map (·.2)), iar (F 34) 400 tp, iar (F 36) 300 an] h := hL
          have hL : stars [grd (A 2) 8 4 (rE2 ((SC.map scE) ++ [(pf tp 0 tp.length, [])])), pt (F 14) (.inr (11, [.ref (A 0), .ref (A 1), .ref (A 2), .int (nI ((SC.map scE) ++ [(pf tp 0 tp.length, [])]).length)])), grd (A 0) 8 256 (rE1 ((SC.map scE) ++ [(pf tp 0 tp.length, [])])), iar (A 1) 8 (rZ ((SC.map scE) ++ [(pf tp 0 tp.length, [])])), pt m (.inr (13, moF F (upN (mW (tp, an, D, (fr, wv, hs), (v, RQ, RS, SC, er, mb), ck) th AN.length lt lf) 0 0) (decide (wv 5 ≠ 0)))), pt (F 1) (.inl (6, 6, .inr (.inr (.inr (.inr (adD DL)))))), lst rdve DL, iar (F 3) 300 AN, iar (F 5) 260 PD, rst (F 6) er (v 20) (mb 1) (mb 2), rrw (F 12) 16 3 (RQ.map rqE), rrw (F 13) 32 5 (RS.map rsE), iar (F 21) 260 fr, iar (F 31) 64 (hs.map (·.1)), iar (F 32) 64 (hs.map (·.2)), iar (F 34) 400 tp, iar (F 36) 300 an] h := stars_ixn hL 17 rfl [3, 0, 1, 2, 4, 5, 6, 7, 8, 9, 10, 11, 12, 13, 14, 15, 16] (by decide) rfl
          obtain ⟨b0, R0, hL, hR0, hC0⟩ := grd_at (i := (SC.map scE).length) (by omega) hL
          have hL : stars [iar b0 4 ((rE2 ((SC.map scE) ++ [(pf tp 0 tp.length, [])])) ((SC.map scE).length)), R0, pt (F 14) (.inr (11, [.ref (A 0), .ref (A 1), .ref (A 2), .int (nI ((SC.map scE) ++ [(pf tp 0 tp.length, [])]).length)])), grd (A 0) 8 256 (rE1 ((SC.map scE) ++ [(pf tp 0 tp.length, [])])), iar (A 1) 8 (rZ ((SC.map scE) ++ [(pf tp 0 tp.length, [])])), pt m (.inr (13, moF F (upN (mW (tp, an, D, (fr, wv, hs), (v, RQ, RS, SC, er, mb), ck) th AN.length lt lf) 0 0) (decide (wv 5 ≠ 0)))), pt (F 1) (.inl (6, 6, .inr (.inr (.inr (.inr (adD DL)))))), lst rdve DL, iar (F 3) 300 AN, iar (F 5) 260 PD, rst (F 6) er (v 20) (mb 1) (mb 2), rrw (F 12) 16 3 (RQ.map rqE), rrw (F 13) 32 5 (RS.map rsE), iar (F 21) 260 fr, iar (F 31) 64 (hs.map (·.1)), iar (F 32) 64 (hs.map (·.2)), iar (F 34) 400 tp, iar (F 36) 300 an] h := hL
          rw [show ((rE2 ((SC.map scE) ++ [(pf tp 0 tp.length, [])])) ((SC.map scE).length)) = [] from rE2_new] at hL
          have hL : stars [iar b0 4 ([]), R0, pt (F 14) (.inr (11, [.ref (A 0), .ref (A 1), .ref (A 2), .int (nI ((SC.map scE) ++ [(pf tp 0 tp.length, [])]).length)])), grd (A 0) 8 256 (rE1 ((SC.map scE) ++ [(pf tp 0 tp.length, [])])), iar (A 1) 8 (rZ ((SC.map scE) ++ [(pf tp 0 tp.length, [])])), pt m (.inr (13, moF F (upN (mW (tp, an, D, (fr, wv, hs), (v, RQ, RS, SC, er, mb), ck) th AN.length lt lf) 0 0) (decide (wv 5 ≠ 0)))), pt (F 1) (.inl (6, 6, .inr (.inr (.inr (.inr (adD DL)))))), lst rdve DL, iar (F 3) 300 AN, iar (F 5) 260 PD, rst (F 6) er (v 20) (mb 1) (mb 2), rrw (F 12) 16 3 (RQ.map rqE), rrw (F 13) 32 5 (RS.map rsE), iar (F 21) 260 fr, iar (F 31) 64 (hs.map (·.1)), iar (F 32) 64 (hs.map (·.2)), iar (F 34) 400 tp, iar (F 36) 300 an] h := hL
          refine e_aload_n 74 dX15_scan__73 rfl rfl ?_
          refine e_get 77 (v := (.ref (F 14))) dX15_scan__74 rfl fl_X15_51_13 (stars_at _ 5 hL rfl) rfl ?_
          refine e_get 80 dX15_scan__77 rfl fl_X15_292_11 (stars_at _ 2 hL rfl) rfl ?_
          refine e_iload_n 81 dX15_scan__80 rfl rfl ?_
          refine v_aaldP 82 (grP_V _ 1 hL rfl hR0) dX15_scan__81 rfl (by omega) (by omega) ?_
          refine e_iconst 83 (v := (nI 0)) dX15_scan__82 rfl (by decide) ?_
          refine e_iload_n 84 dX15_scan__83 rfl rfl ?_
          refine p_iastR 85 hL 0 (r := []) (r' := [n]) (k := 0) (v := n) (L' := [iar b0 4 ([n]), R0, pt (F 14) (.inr (11, [.ref (A 0), .ref (A 1), .ref (A 2), .int (nI ((SC.map scE) ++ [(pf tp 0 tp.length, [])]).length)])), grd (A 0) 8 256 (rE1 ((SC.map scE) ++ [(pf tp 0 tp.length, [])])), iar (A 1) 8 (rZ ((SC.map scE) ++ [(pf tp 0 tp.length, [])])), pt m (.inr (13, moF F (upN (mW (tp, an, D, (fr, wv, hs), (v, RQ, RS, SC, er, mb), ck) th AN.length lt lf) 0 0) (decide (wv 5 ≠ 0)))), pt (F 1) (.inl (6, 6, .inr (.inr (.inr (.inr (adD DL)))))), lst rdve DL, iar (F 3) 300 AN, iar (F 5) 260 PD, rst (F 6) er (v 20) (mb 1) (mb 2), rrw (F 12) 16 3 (RQ.map rqE), rrw (F 13) 32 5 (RS.map rsE), iar (F 21) 260 fr, iar (F 31) 64 (hs.map (·.1)), iar (F 32) 64 (hs.map (·.2)), iar (F 34) 400 tp, iar (F 36) 300 an]) rfl dX15_scan__84 rfl (by omega) (by omega) (iw_ap (r := []) (v := n) rfl (Nat.le_of_ble_eq_true rfl)) rfl (fun h hL => ?_)
          refine e_aload_n 86 dX15_scan__85 rfl rfl ?_
          refine e_get 89 (v := (.ref (F 14))) dX15_scan__86 rfl fl_X15_51_13 (stars_at _ 5 hL rfl) rfl ?_
          refine e_get 92 dX15_scan__89 rfl fl_X15_292_11 (stars_at _ 2 hL rfl) rfl ?_
          refine e_iload_n 93 dX15_scan__92 rfl rfl ?_
          refine v_aaldP 94 (grP_V _ 1 hL rfl hR0) dX15_scan__93 rfl (by omega) (by omega) ?_
          refine e_iconst 95 (v := (nI 1)) dX15_scan__94 rfl (by decide) ?_
          refine e_iload_n 96 dX15_scan__95 rfl rfl ?_
          refine p_iastR 97 hL 0 (r := [n]) (r' := [n, e]) (k := 1) (v := e) (L' := [iar b0 4 ([n, e]), R0, pt (F 14) (.inr (11, [.ref (A 0), .ref (A 1), .ref (A 2), .int (nI ((SC.map scE) ++ [(pf tp 0 tp.length, [])]).length)])), grd (A 0) 8 256 (rE1 ((SC.map scE) ++ [(pf tp 0 tp.length, [])])), iar (A 1) 8 (rZ ((SC.map scE) ++ [(pf tp 0 tp.length, [])])), pt m (.inr (13, moF F (upN (mW (tp, an, D, (fr, wv, hs), (v, RQ, RS, SC, er, mb), ck) th AN.length lt lf) 0 0) (decide (wv 5 ≠ 0)))), pt (F 1) (.inl (6, 6, .inr (.inr (.inr (.inr (adD DL)))))), lst rdve DL, iar (F 3) 300 AN, iar (F 5) 260 PD, rst (F 6) er (v 20) (mb 1) (mb 2), rrw (F 12) 16 3 (RQ.map rqE), rrw (F 13) 32 5 (RS.map rsE), iar (F 21) 260 fr, iar (F 31) 64 (hs.map (·.1)), iar (F 32) 64 (hs.map (·.2)), iar (F 34) 400 tp, iar (F 36) 300 an]) rfl dX15_scan__96 rfl (by omega) (by omega) (iw_ap (r := [n]) (v := e) rfl (Nat.le_of_ble_eq_true rfl)) rfl (fun h hL => ?_)
          refine e_aload_n 98 dX15_scan__97 rfl rfl ?_
          refine e_get 101 (v := (.ref (F 14))) dX15_scan__98 rfl fl_X15_51_13 (stars_at _ 5 hL rfl) rfl ?_
          refine e_get 104 dX15_scan__101 rfl fl_X15_292_11 (stars_at _ 2 hL rfl) rfl ?_
          refine e_iload_n 105 dX15_scan__104 rfl rfl ?_
          refine v_aaldP 106 (grP_V _ 1 hL rfl hR0) dX15_scan__105 rfl (by omega) (by omega) ?_
          refine e_iconst 107 (v := (nI 2)) dX15_scan__106 rfl (by decide) ?_
          refine e_aload_n 108 dX15_scan__107 rfl rfl ?_
          refine e_get 111 (v := (.int (nI ck))) dX15_scan__108 rfl fl_X15_362_13 (stars_at _ 5 hL rfl) rfl ?_
          refine e_iload_n 112 dX15_scan__111 rfl rfl ?_
          refine e_iadd 113 (v := (nI (ck + e))) dX15_scan__112 rfl (nI_add ck e) ?_
          refine p_iastR 114 hL 0 (r := [n, e]) (r' := [n, e, ck + e]) (k := 2) (v := (ck + e)) (L' := [iar b0 4 ([n, e, ck + e]), R0, pt (F 14) (.inr (11, [.ref (A 0), .ref (A 1), .ref (A 2), .int (nI ((SC.map scE) ++ [(pf tp 0 tp.length, [])]).length)])), grd (A 0) 8 256 (rE1 ((SC.map scE) ++ [(pf tp 0 tp.length, [])])), iar (A 1) 8 (rZ ((SC.map scE) ++ [(pf tp 0 tp.length, [])])), pt m (.inr (13, moF F (upN (mW (tp, an, D, (fr, wv, hs), (v, RQ, RS, SC, er, mb), ck) th AN.length lt lf) 0 0) (decide (wv 5 ≠ 0)))), pt (F 1) (.inl (6, 6, .inr (.inr (.inr (.inr (adD DL)))))), lst rdve DL, iar (F 3) 300 AN, iar (F 5) 260 PD, rst (F 6) er (v 20) (mb 1) (mb 2), rrw (F 12) 16 3 (RQ.map rqE), rrw (F 13) 32 5 (RS.map rsE), iar (F 21) 260 fr, iar (F 31) 64 (hs.map (·.1)), iar (F 32) 64 (hs.map (·.2)), iar (F 34) 400 tp, iar (F 36) 300 an]) rfl dX15_scan__113 rfl (by omega) (by omega) (iw_ap (r := [n, e]) (v := (ck + e)) rfl (Nat.le_of_ble_eq_true rfl)) rfl (fun h hL => ?_)
          refine e_aload_n 115 dX15_scan__114 rfl rfl ?_
          refine e_get 118 (v := (.ref (F 14))) dX15_scan__115 rfl fl_X15_51_13 (stars_at _ 5 hL rfl) rfl ?_
          refine e_get 121 dX15_scan__118 rfl fl_X15_292_11 (stars_at _ 2 hL rfl) rfl ?_
          refine e_iload_n 122 dX15_scan__121 rfl rfl ?_
          refine v_aaldP 123 (grP_V _ 1 hL rfl hR0) dX15_scan__122 rfl (by omega) (by omega) ?_
          refine e_iconst 124 (v := (nI 3)) dX15_scan__123 rfl (by decide) ?_
          refine e_iconst 125 (v := (nI 4294967295)) dX15_scan__124 rfl (by decide) ?_
          refine p_iastR 126 hL 0 (r := [n, e, ck + e]) (r' := [n, e, ck + e, 4294967295]) (k := 3) (v := 4294967295) (L' := [iar b0 4 ([n, e, ck + e, 4294967295]), R0, pt (F 14) (.inr (11, [.ref (A 0), .ref (A 1), .ref (A 2), .int (nI ((SC.map scE) ++ [(pf tp 0 tp.length, [])]).length)])), grd (A 0) 8 256 (rE1 ((SC.map scE) ++ [(pf tp 0 tp.length, [])])), iar (A 1) 8 (rZ ((SC.map scE) ++ [(pf tp 0 tp.length, [])])), pt m (.inr (13, moF F (upN (mW (tp, an, D, (fr, wv, hs), (v, RQ, RS, SC, er, mb), ck) th AN.length lt lf) 0 0) (decide (wv 5 ≠ 0)))), pt (F 1) (.inl (6, 6, .inr (.inr (.inr (.inr (adD DL)))))), lst rdve DL, iar (F 3) 300 AN, iar (F 5) 260 PD, rst (F 6) er (v 20) (mb 1) (mb 2), rrw (F 12) 16 3 (RQ.map rqE), rrw (F 13) 32 5 (RS.map rsE), iar (F 21) 260 fr, iar (F 31) 64 (hs.map (·.1)), iar (F 32) 64 (hs.map (·.2)), iar (F 34) 400 tp, iar (F 36) 300 an]) rfl dX15_scan__125 rfl (by omega) (by omega) (iw_ap (r := [n, e, ck + e]) (v := 4294967295) rfl (Nat.le_of_ble_eq_true rfl)) rfl (fun h hL => ?_)
          have hL : stars [grd (A 2) 8 4 (upL (rE2 ((SC.map scE) ++ [(pf tp 0 tp.length, [])])) ((SC.map scE).length) ([n, e, ck + e, 4294967295])), pt (F 14) (.inr (11, [.ref (A 0), .ref (A 1), .ref (A 2), .int (nI ((SC.map scE) ++ [(pf tp 0 tp.length, [])]).length)])), grd (A 0) 8 256 (rE1 ((SC.map scE) ++ [(pf tp 0 tp.length, [])])), iar (A 1) 8 (rZ ((SC.map scE) ++ [(pf tp 0 tp.length, [])])), pt m (.inr (13, moF F (upN (mW (tp, an, D, (fr, wv, hs), (v, RQ, RS, SC, er, mb), ck) th AN.length lt lf) 0 0) (decide (wv 5 ≠ 0)))), pt (F 1) (.inl (6, 6, .inr (.inr (.inr (.inr (adD DL)))))), lst rdve DL, iar (F 3) 300 AN, iar (F 5) 260 PD, rst (F 6) er (v 20) (mb 1) (mb 2), rrw (F 12) 16 3 (RQ.map rqE), rrw (F 13) 32 5 (RS.map rsE), iar (F 21) 260 fr, iar (F 31) 64 (hs.map (·.1)), iar (F 32) 64 (hs.map (·.2)), iar (F 34) 400 tp, iar (F 36) 300 an] h := hC0 _ _ _ hL
          have hL : stars [pt (F 14) (.inr (11, [.ref (A 0), .ref (A 1), .ref (A 2), .int (nI ((SC.map scE) ++ [(pf tp 0 tp.length, [])]).length)])), grd (A 0) 8 256 (rE1 ((SC.map scE) ++ [(pf tp 0 tp.length, [])])), iar (A 1) 8 (rZ ((SC.map scE) ++ [(pf tp 0 tp.length, [])])), grd (A 2) 8 4 (upL (rE2 ((SC.map scE) ++ [(pf tp 0 tp.length, [])])) ((SC.map scE).length) ([n, e, ck + e, 4294967295])), pt m (.inr (13, moF F (upN (mW (tp, an, D, (fr, wv, hs), (v, RQ, RS, SC, er, mb), ck) th AN.length lt lf) 0 0) (decide (wv 5 ≠ 0)))), pt (F 1) (.inl (6, 6, .inr (.inr (.inr (.inr (adD DL)))))), lst rdve DL, iar (F 3) 300 AN, iar (F 5) 260 PD, rst (F 6) er (v 20) (mb 1) (mb 2), rrw (F 12) 16 3 (RQ.map rqE), rrw (F 13) 32 5 (RS.map rsE), iar (F 21) 260 fr, iar (F 31) 64 (hs.map (·.1)), iar (F 32) 64 (hs.map (·.2)), iar (F 34) 400 tp, iar (F 36) 300 an] h := stars_ixn hL 17 rfl [1, 2, 3, 0, 4, 5, 6, 7, 8, 9, 10, 11, 12, 13, 14, 15, 16] (by decide) rfl
          have hL : stars [rrw (F 14) 8 4 ((SC.map scE) ++ [(pf tp 0 tp.length, [n, e, ck + e, 4294967295])]), pt m (.inr (13, moF F (upN (mW (tp, an, D, (fr, wv, hs), (v, RQ, RS, SC, er, mb), ck) th AN.length lt lf) 0 0) (decide (wv 5 ≠ 0)))), pt (F 1) (.inl (6, 6, .inr (.inr (.inr (.inr (adD DL)))))), lst rdve DL, iar (F 3) 300 AN, iar (F 5) 260 PD, rst (F 6) er (v 20) (mb 1) (mb 2), rrw (F 12) 16 3 (RQ.map rqE), rrw (F 13) 32 5 (RS.map rsE), iar (F 21) 260 fr, iar (F 31) 64 (hs.map (·.1)), iar (F 32) 64 (hs.map (·.2)), iar (F 34) 400 tp, iar (F 36) 300 an] h := rrw_ad2 hnA hL
          have eq9 : SC.map scE ++ [(pf tp 0 tp.length, [n, e, ck + e, 4294967295])] = (SC ++ [((tp, e, n, ck + e, none) : SCE)]).map scE := by rw [List.map_append, pf_all]; rfl
          rw [eq9] at hL
          have hL : stars [rrw (F 14) 8 4 ((SC ++ [((tp, e, n, ck + e, none) : SCE)]).map scE), pt m (.inr (13, moF F (upN (mW (tp, an, D, (fr, wv, hs), (v, RQ, RS, SC, er, mb), ck) th AN.length lt lf) 0 0) (decide (wv 5 ≠ 0)))), pt (F 1) (.inl (6, 6, .inr (.inr (.inr (.inr (adD DL)))))), lst rdve DL, iar (F 3) 300 AN, iar (F 5) 260 PD, rst (F 6) er (v 20) (mb 1) (mb 2), rrw (F 12) 16 3 (RQ.map rqE), rrw (F 13) 32 5 (RS.map rsE), iar (F 21) 260 fr, iar (F 31) 64 (hs.map (·.1)), iar (F 32) 64 (hs.map (·.2)), iar (F 34) 400 tp, iar (F 36) 300 an] h := hL
          have hL : stars [rrw (F 14) 8 4 ((SC ++ [((tp, e, n, ck + e, none) : SCE)]).map scE), pt m (.inr (13, moF F (upN (mW (tp, an, D, (fr, wv, hs), (v, RQ, RS, SC, er, mb), ck) th AN.length lt lf) 0 0) (decide (wv 5 ≠ 0)))), pt (F 1) (.inl (6, 6, .inr (.inr (.inr (.inr (adD DL)))))), lst rdve DL, iar (F 3) 300 AN, iar (F 5) 260 PD, rst (F 6) er (v 20) (mb 1) (mb 2), rrw (F 12) 16 3 (RQ.map rqE), rrw (F 13) 32 5 (RS.map rsE), iar (F 21) 260 fr, iar (F 31) 64 (hs.map (·.1)), iar (F 32) 64 (hs.map (·.2)), iar (F 34) 400 ([]), iar (F 36) 300 an] h := iar_em 12 hL rfl rfl
          refine e_aload_n 127 dX15_scan__126 rfl rfl ?_
          refine e_iconst 128 (v := (nI 0)) dX15_scan__127 rfl (by decide) ?_
          refine p_put 131 hL 1 (fs' := moF F (upN (upN (mW (tp, an, D, (fr, wv, hs), (v, RQ, RS, SC, er, mb), ck) th AN.length lt lf) 0 0) 35 0) (decide (wv 5 ≠ 0))) (L' := [rrw (F 14) 8 4 ((SC ++ [((tp, e, n, ck + e, none) : SCE)]).map scE), pt m (.inr (13, moF F (upN (upN (mW (tp, an, D, (fr, wv, hs), (v, RQ, RS, SC, er, mb), ck) th AN.length lt lf) 0 0) 35 0) (decide (wv 5 ≠ 0)))), pt (F 1) (.inl (6, 6, .inr (.inr (.inr (.inr (adD DL)))))), lst rdve DL, iar (F 3) 300 AN, iar (F 5) 260 PD, rst (F 6) er (v 20) (mb 1) (mb 2), rrw (F 12) 16 3 (RQ.map rqE), rrw (F 13) 32 5 (RS.map rsE), iar (F 21) 260 fr, iar (F 31) 64 (hs.map (·.1)), iar (F 32) 64 (hs.map (·.2)), iar (F 34) 400 ([]), iar (F 36) 300 an]) rfl rfl dX15_scan__128 rfl fp_X15_432_13 (Or.inl rfl) (Nat.le_of_ble_eq_true rfl) rfl rfl rfl (fun h hL => ?_)
          refine e_iload_n 132 dX15_scan__131 rfl rfl ?_
          exact e_iret dX15_scan__132 rfl (by omega) (by omega) (⟨_, ⟨by rw [snR, if_pos (show snC (tp, an, D, (fr, wv, hs), (v, RQ, RS, SC, er, mb), ck) (nI e) (nI n) = true by simp only [snC, k14, k25, Bool.true_and, inN, Bool.and_eq_true, decide_eq_true_eq]; omega)]; simp only [List.length_map], by rw [snG, if_pos (show snC (tp, an, D, (fr, wv, hs), (v, RQ, RS, SC, er, mb), ck) (nI e) (nI n) = true by simp only [snC, k14, k25, Bool.true_and, inN, Bool.and_eq_true, decide_eq_true_eq]; omega), nc, ec]⟩, rfo_c (g := ([], an, D, (fr, wv, hs), (v, RQ, RS, SC ++ [(tp, e, n, ck + e, none)], er, mb), ck)) (th := 0) (F := F) (lt := lt) (lf := lf) (AN := AN) (PD := PD) (DL := DL) (X := []) hc (stars_ixn hL 14 rfl [1, 2, 3, 4, 5, 6, 7, 8, 0, 9, 10, 11, 12, 13] (by decide) rfl)⟩)
        · have k51 := j_ne_f (a := (SC.map scE).length) (b := 8) (by omega) (by omega) c51
          refine e_iconst 55 (v := (-1)) dX15_scan__54 rfl (by decide) ?_
          exact e_iret dX15_scan__55 rfl (by omega) (by omega) (⟨_, ⟨by rw [snR, if_neg (show ¬ snC (tp, an, D, (fr, wv, hs), (v, RQ, RS, SC, er, mb), ck) (nI e) (nI n) = true by rw [show snC (tp, an, D, (fr, wv, hs), (v, RQ, RS, SC, er, mb), ck) (nI e) (nI n) = false by simp only [snC, k14, k25, Bool.true_and, inN, Bool.and_eq_false_iff, decide_eq_false_iff_not]; omega]; decide)], by rw [snG, if_neg (show ¬ snC (tp, an, D, (fr, wv, hs), (v, RQ, RS, SC, er, mb), ck) (nI e) (nI n) = true by rw [show snC (tp, an, D, (fr, wv, hs), (v, RQ, RS, SC, er, mb), ck) (nI e) (nI n) = false by simp only [snC, k14, k25, Bool.true_and, inN, Bool.and_eq_false_iff, decide_eq_false_iff_not]; omega]; decide)]⟩, rfo_c (g := (tp, an, D, (fr, wv, hs), (v, RQ, RS, SC, er, mb), ck)) (th := 0) (F := F) (lt := lt) (lf := lf) (AN := AN) (PD := PD) (DL := DL) (X := []) hc (stars_ixn hL 14 rfl [0, 1, 2, 3, 4, 5, 6, 7, 8, 9, 10, 11, 12, 13] (by decide) rfl)⟩)
set_option maxRecDepth 20000 in
set_option maxHeartbeats 2000000 in
theorem l_rharm {m nn x b8 : Nat} {F w : Nat → Nat} {bg : Bool} {hs : List (Nat × Nat)} {X1 X2 X3 X4 X5 X6 X7 X8 X9 X10 X11 : sA} (hl : hs.length ≤ 64) (hb : ∀ e ∈ hs, e.1 < 2 ^ 30 ∧ e.2 ≤ 340) (h8 : b8 < 2 ^ 29) (hn9 : nn ≤ 2000) (hx9 : x ≤ 340) {Q : Option Value → eH → Prop} (kk : ∀ h (b : Bool), teB hs (b8 + nn) = b → stars [rmo m F (upN (upN w 33 (teL hs (b8 + nn) x).length) 29 b8) bg, iar (F 31) 64 ((teL hs (b8 + nn) x).map (·.1)), iar (F 32) 64 ((teL hs (b8 + nn) x).map (·.2)), X1, X2, X3, X4, X5, X6, X7, X8, X9, X10, X11] h → Q (some (.int (bI b))) h) : ∀ (n : Nat) (i : Nat) (h : eH), hs.length - i < n → i ≤ hs.length → (∀ j, j < i → (hs.getD j (0, 0)).1 ≠ (b8 + nn)) → stars [pt m (.inr (13, moF F (upN (upN w 33 hs.length) 29 b8) bg)), iar (F 31) 64 (hs.map (·.1)), iar (F 32) 64 (hs.map (·.2)), X1, X2, X3, X4, X5, X6, X7, X8, X9, X10, X11] h → EE mX15_harm 1 30 0 0 (Q) 39 [some (.ref m), some (.int (nI nn)), some (.int (nI x)), some (.int (nI (b8 + nn))), some (.int (nI i))] [] h 0 0 := by
  intro n
  induction n with
  | zero => intro i h hlt hle hn hL; exact absurd hlt (by omega)
  | succ n ih =>
    intro i h hlt hle hn hL
    refine e_iload 41 dX15_harm_39 rfl rfl ?_
    refine e_aload_n 42 dX15_harm_41 rfl rfl ?_
    refine e_get 45 (v := (.int (nI hs.length))) dX15_harm_42 rfl fl_X15_372_13 (stars_at _ 0 hL rfl) rfl ?_
    refine e_icmp_ge 78 48 dX15_harm_45 rfl rfl (fun c45 => ?_) (fun c45 => ?_)
    · have k45 := j_ge_t (a := i) (b := hs.length) (by omega) (by omega) c45
      refine e_aload_n 79 dX15_harm_78 rfl rfl ?_
      refine e_get 82 (v := (.int (nI hs.length))) dX15_harm_79 rfl fl_X15_372_13 (stars_at _ 0 hL rfl) rfl ?_
      refine e_bipush 84 (v := (nI 64)) dX15_harm_82 rfl (by decide) ?_
      refine e_icmp_ne 89 87 dX15_harm_84 rfl rfl (fun c84 => ?_) (fun c84 => ?_)
      · have k84 := j_ne_t (a := hs.length) (b := 64) (by omega) (by omega) c84
        refine e_aload_n 90 dX15_harm_89 rfl rfl ?_
        refine e_get 93 (v := (.ref (F 31))) dX15_harm_90 rfl fl_X15_60_13 (stars_at _ 0 hL rfl) rfl ?_
        refine e_aload_n 94 dX15_harm_93 rfl rfl ?_
        refine e_get 97 (v := (.int (nI hs.length))) dX15_harm_94 rfl fl_X15_372_13 (stars_at _ 0 hL rfl) rfl ?_
        refine e_iload_n 98 dX15_harm_97 rfl rfl ?_
        refine p_iastR 99 hL 1 (r := (hs.map (·.1))) (r' := ((hs.map (·.1)) ++ [(b8 + nn)])) (k := hs.length) (v := (b8 + nn)) (L' := [pt m (.inr (13, moF F (upN (upN w 33 hs.length) 29 b8) bg)), iar (F 31) 64 ((hs.map (·.1)) ++ [(b8 + nn)]), iar (F 32) 64 (hs.map (·.2)), X1, X2, X3, X4, X5, X6, X7, X8, X9, X10, X11]) rfl dX15_harm_98 rfl (by omega) (by omega) (iw_apl (List.length_map _) rfl (by rw [List.length_map]; omega)) rfl (fun h hL => ?_)
        refine e_aload_n 100 dX15_harm_99 rfl rfl ?_
        refine e_get 103 (v := (.ref (F 32))) dX15_harm_100 rfl fl_X15_63_13 (stars_at _ 0 hL rfl) rfl ?_
        refine e_aload_n 104 dX15_harm_103 rfl rfl ?_
        refine e_get 107 (v := (.int (nI hs.length))) dX15_harm_104 rfl fl_X15_372_13 (stars_at _ 0 hL rfl) rfl ?_
        refine e_iload_n 108 dX15_harm_107 rfl rfl ?_
        refine p_iastR 109 hL 2 (r := (hs.map (·.2))) (r' := ((hs.map (·.2)) ++ [x])) (k := hs.length) (v := x) (L' := [pt m (.inr (13, moF F (upN (upN w 33 hs.length) 29 b8) bg)), iar (F 31) 64 ((hs.map (·.1)) ++ [(b8 + nn)]), iar (F 32) 64 ((hs.map (·.2)) ++ [x]), X1, X2, X3, X4, X5, X6, X7, X8, X9, X10, X11]) rfl dX15_harm_108 rfl (by omega) (by omega) (iw_apl (List.length_map _) rfl (by rw [List.length_map]; omega)) rfl (fun h hL => ?_)
        refine e_aload_n 110 dX15_harm_109 rfl rfl ?_
        refine e_dup 111 dX15_harm_110 rfl rfl ?_
        refine e_get 114 (v := (.int (nI hs.length))) dX15_harm_111 rfl fl_X15_372_13 (stars_at _ 0 hL rfl) rfl ?_
        refine e_iconst 115 (v := (nI 1)) dX15_harm_114 rfl (by decide) ?_
        refine e_iadd 116 (v := (nI (hs.length + 1))) dX15_harm_115 rfl (nI_add hs.length 1) ?_
        refine p_put 119 hL 0 (fs' := moF F (upN (upN (upN w 33 hs.length) 29 b8) 33 (hs.length + 1)) bg) (L' := [pt m (.inr (13, moF F (upN (upN (upN w 33 hs.length) 29 b8) 33 (hs.length + 1)) bg)), iar (F 31) 64 ((hs.map (·.1)) ++ [(b8 + nn)]), iar (F 32) 64 ((hs.map (·.2)) ++ [x]), X1, X2, X3, X4, X5, X6, X7, X8, X9, X10, X11]) rfl rfl dX15_harm_116 rfl fp_X15_372_13 (Or.inl rfl) (Nat.le_of_ble_eq_true rfl) rfl rfl rfl (fun h hL => ?_)
        have hB9 : teB hs (b8 + nn) = true := by rw [teB, ixH_f (k := (b8 + nn)) (hs := hs) (fun j hj => hn j (by omega)), decide_eq_true (show hs.length < 64 by omega)]; rfl
        have e9 : (teL hs (b8 + nn) x) = hs ++ [((b8 + nn), x)] := by rw [teL, ixH_f (k := (b8 + nn)) (hs := hs) (fun j hj => hn j (by omega))]; exact if_pos (by omega)
        have hL9 : stars [rmo m F (upN (upN w 33 (teL hs (b8 + nn) x).length) 29 b8) bg, iar (F 31) 64 ((teL hs (b8 + nn) x).map (·.1)), iar (F 32) 64 ((teL hs (b8 + nn) x).map (·.2)), X1, X2, X3, X4, X5, X6, X7, X8, X9, X10, X11] h := by rw [e9, List.map_append, List.map_append, List.length_append]; exact hL
        refine e_iconst 120 (v := (nI 1)) dX15_harm_119 rfl (by decide) ?_
        exact e_zret dX15_harm_120 rfl (Or.inr (by decide)) (by omega) (by omega) (kk h true hB9 hL9)
      · have k84 := j_ne_f (a := hs.length) (b := 64) (by omega) (by omega) c84
        have hB9 : teB hs (b8 + nn) = false := by rw [teB, ixH_f (k := (b8 + nn)) (hs := hs) (fun j hj => hn j (by omega)), decide_eq_false (show ¬ hs.length < 64 by omega)]; rfl
        have e9 : (teL hs (b8 + nn) x) = hs := by rw [teL, ixH_f (k := (b8 + nn)) (hs := hs) (fun j hj => hn j (by omega))]; exact if_neg (by omega)
        have hL9 : stars [rmo m F (upN (upN w 33 (teL hs (b8 + nn) x).length) 29 b8) bg, iar (F 31) 64 ((teL hs (b8 + nn) x).map (·.1)), iar (F 32) 64 ((teL hs (b8 + nn) x).map (·.2)), X1, X2, X3, X4, X5, X6, X7, X8, X9, X10, X11] h := by rw [e9]; exact hL
        refine e_iconst 88 (v := (nI 0)) dX15_harm_87 rfl (by decide) ?_
        exact e_zret dX15_harm_88 rfl (Or.inl (by decide)) (by omega) (by omega) (kk h false hB9 hL9)
    · have k45 := j_ge_f (a := i) (b := hs.length) (by omega) (by omega) c45
      have hbi := gd_hs hb i
      refine e_aload_n 49 dX15_harm_48 rfl rfl ?_
      refine e_get 52 (v := (.ref (F 31))) dX15_harm_49 rfl fl_X15_60_13 (stars_at _ 0 hL rfl) rfl ?_
      refine e_iload 54 dX15_harm_52 rfl rfl ?_
      refine v_iald 55 (r := (hs.map (·.1))) (iar_V _ 1 hL rfl) (k := i) (x := (hs.getD i (0, 0)).1) dX15_harm_54 rfl (by rw [List.length_map]; omega) (by omega) mp1 ?_
      refine e_iload_n 56 dX15_harm_55 rfl rfl ?_
      refine e_icmp_eq 62 59 dX15_harm_56 rfl rfl (fun c56 => ?_) (fun c56 => ?_)
      · have k56 := j_eq_t (a := ((hs.getD i (0, 0)).1)) (b := (b8 + nn)) (by omega) (by omega) c56
        refine e_aload_n 63 dX15_harm_62 rfl rfl ?_
        refine e_get 66 (v := (.ref (F 32))) dX15_harm_63 rfl fl_X15_63_13 (stars_at _ 0 hL rfl) rfl ?_
        refine e_iload 68 dX15_harm_66 rfl rfl ?_
        refine e_iload_n 69 dX15_harm_68 rfl rfl ?_
        refine p_iastR 70 hL 2 (r := (hs.map (·.2))) (r' := ((hs.map (·.2)).set i x)) (k := i) (v := x) (L' := [pt m (.inr (13, moF F (upN (upN w 33 hs.length) 29 b8) bg)), iar (F 31) 64 (hs.map (·.1)), iar (F 32) 64 ((hs.map (·.2)).set i x), X1, X2, X3, X4, X5, X6, X7, X8, X9, X10, X11]) rfl dX15_harm_69 rfl (by omega) (by omega) (iw_set (by rw [List.length_map]; omega) (by rw [List.length_map]; omega)) rfl (fun h hL => ?_)
        have hB9 : teB hs (b8 + nn) = true := by rw [teB, ixH_t (by omega) k56 hn]; rfl
        have tm := te_map (x := x) (ixH_t (k := (b8 + nn)) (i := i) (by omega) k56 hn)
        have hL9 : stars [rmo m F (upN (upN w 33 (teL hs (b8 + nn) x).length) 29 b8) bg, iar (F 31) 64 ((teL hs (b8 + nn) x).map (·.1)), iar (F 32) 64 ((teL hs (b8 + nn) x).map (·.2)), X1, X2, X3, X4, X5, X6, X7, X8, X9, X10, X11] h := by rw [tm.1, tm.2.1, tm.2.2]; exact hL
        refine e_iconst 71 (v := (nI 1)) dX15_harm_70 rfl (by decide) ?_
        exact e_zret dX15_harm_71 rfl (Or.inr (by decide)) (by omega) (by omega) (kk h true hB9 hL9)
      · have k56 := j_eq_f (a := ((hs.getD i (0, 0)).1)) (b := (b8 + nn)) (by omega) (by omega) c56
        refine e_goto 72 dX15_harm_59 rfl ?_
        refine e_iinc 75 (v := (nI (i + 1))) (ls' := [some (.ref m), some (.int (nI nn)), some (.int (nI x)), some (.int (nI (b8 + nn))), some (.int (nI (i + 1)))]) dX15_harm_72 rfl rfl (nI_add i 1) (by decide) rfl ?_
        refine e_goto 39 dX15_harm_75 rfl ?_
        refine e_wk [some (.ref m), some (.int (nI nn)), some (.int (nI x)), some (.int (nI (b8 + nn))), some (.int (nI (i + 1)))] ⟨rfl, rfl, rfl, rfl, rfl, trivial⟩ ?_
        exact ih (i + 1) h (by omega) (by omega) (fun j hj => (Nat.lt_succ_iff_lt_or_eq.mp hj).elim (hn j) (fun e => by rw [e]; exact k56)) hL
set_option maxRecDepth 20000 in
set_option maxHeartbeats 2000000 in
theorem k_X15_harm {m th : Nat} {tp an fr : List Nat} {D : List DS} {wv : Nat → Nat} {hs : List (Nat × Nat)} {v : Nat → Nat} {RQ : List RQE} {RS : List RSE} {SC : List SCE} {er : List Nat} {mb : Nat → Bool} {ck : Nat} {x1 x2 : Int32} (lhs : hs.length ≤ 64) (hb : ∀ e ∈ hs, e.1 < 2 ^ 30 ∧ e.2 ≤ 340) (h8 : wv 8 < 2 ^ 29) : CA mX15_harm [.ref m, .int x1, .int x2] [rfo m (tp, an, D, (fr, wv, hs), (v, RQ, RS, SC, er, mb), ck) th] (fun r K => r = some (.int (bI (hmR (tp, an, D, (fr, wv, hs), (v, RQ, RS, SC, er, mb), ck) x1 x2))) ∧ K = [rfo m (hmG (tp, an, D, (fr, wv, hs), (v, RQ, RS, SC, er, mb), ck) x1 x2) 0]) 1 30 0 0 := by
  refine CA.mk 2 (ls := [some (.ref m), some (.int x1), some (.int x2), none, none]) rfl rfl (Nat.le_of_ble_eq_true rfl) rfl (fun h hL => ?_)
  obtain ⟨F, lt, lf, AN, PD, DL, hc, hL⟩ := rfo_o hL
  have hL : stars [pt m (.inr (13, moF F (mW (tp, an, D, (fr, wv, hs), (v, RQ, RS, SC, er, mb), ck) th AN.length lt lf) (decide (wv 5 ≠ 0)))), pt (F 1) (.inl (6, 6, .inr (.inr (.inr (.inr (adD DL)))))), lst rdve DL, iar (F 3) 300 AN, iar (F 5) 260 PD, rst (F 6) er (v 20) (mb 1) (mb 2), rrw (F 12) 16 3 (RQ.map rqE), rrw (F 13) 32 5 (RS.map rsE), rrw (F 14) 8 4 (SC.map scE), iar (F 21) 260 fr, iar (F 31) 64 (hs.map (·.1)), iar (F 32) 64 (hs.map (·.2)), iar (F 34) 400 tp, iar (F 36) 300 an] h := hL
  have ltp := (iar_V _ 12 hL rfl).le
  have lan := (iar_V _ 13 hL rfl).le
  have lfr := (iar_V _ 9 hL rfl).le
  refine e_aload_n 1 dX15_harm_0 rfl rfl ?_
  refine e_iconst 2 (v := (nI 0)) dX15_harm_1 rfl (by decide) ?_
  refine p_put 5 hL 0 (fs' := moF F (upN (mW (tp, an, D, (fr, wv, hs), (v, RQ, RS, SC, er, mb), ck) th AN.length lt lf) 0 0) (decide (wv 5 ≠ 0))) (L' := [pt m (.inr (13, moF F (upN (mW (tp, an, D, (fr, wv, hs), (v, RQ, RS, SC, er, mb), ck) th AN.length lt lf) 0 0) (decide (wv 5 ≠ 0)))), pt (F 1) (.inl (6, 6, .inr (.inr (.inr (.inr (adD DL)))))), lst rdve DL, iar (F 3) 300 AN, iar (F 5) 260 PD, rst (F 6) er (v 20) (mb 1) (mb 2), rrw (F 12) 16 3 (RQ.map rqE), rrw (F 13) 32 5 (RS.map rsE), rrw (F 14) 8 4 (SC.map scE), iar (F 21) 260 fr, iar (F 31) 64 (hs.map (·.1)), iar (F 32) 64 (hs.map (·.2)), iar (F 34) 400 tp, iar (F 36) 300 an]) rfl rfl dX15_harm_2 rfl fp_X15_73_13 (Or.inl rfl) (Nat.le_of_ble_eq_true rfl) rfl rfl rfl (fun h hL => ?_)
  refine e_iload_n 6 dX15_harm_5 rfl rfl ?_
  refine e_iconst 7 (v := (nI 0)) dX15_harm_6 rfl (by decide) ?_
  refine e_sipush 10 (v := (nI 2000)) dX15_harm_7 rfl (by decide) ?_
  refine u_callS 13 dX15_harm_10 rfl cs_X15_81 u_inI rfl rfl (Nat.le_of_ble_eq_true rfl) (by decide) ⟨by omega, by omega⟩ ?_
  refine e_if_eq 27 16 dX15_harm_13 rfl rfl (fun c13 => ?_) (fun c13 => ?_)
  · have k13 := jb_eq_t c13
    refine e_iconst 28 (v := (nI 0)) dX15_harm_27 rfl (by decide) ?_
    exact e_zret dX15_harm_28 rfl (Or.inl (by decide)) (by omega) (by omega) (⟨_, ⟨by rw [hmR, show hmB x1 x2 = false by simp only [hmB, k13, Bool.true_and, Bool.false_and, Bool.and_false, Bool.and_true]]; rfl, by rw [hmG, if_neg (show ¬ hmB x1 x2 = true by rw [show hmB x1 x2 = false by simp only [hmB, k13, Bool.true_and, Bool.false_and, Bool.and_false, Bool.and_true]]; decide)]⟩, rfo_c (g := (tp, an, D, (fr, wv, hs), (v, RQ, RS, SC, er, mb), ck)) (th := 0) (F := F) (lt := lt) (lf := lf) (AN := AN) (PD := PD) (DL := DL) (X := []) hc (stars_ixn hL 14 rfl [0, 1, 2, 3, 4, 5, 6, 7, 8, 9, 10, 11, 12, 13] (by decide) rfl)⟩)
  · have k13 := jb_eq_f c13
    obtain ⟨n, rfl, na, nb⟩ := inI_nat (by first | decide | omega) (by first | decide | omega) k13
    have nc : (nI n).toNatClampNeg = n := nI_clamp (by omega)
    refine e_iload_n 17 dX15_harm_16 rfl rfl ?_
    refine e_iconst 18 (v := (nI 1)) dX15_harm_17 rfl (by decide) ?_
    refine e_sipush 21 (v := (nI 340)) dX15_harm_18 rfl (by decide) ?_
    refine u_callS 24 dX15_harm_21 rfl cs_X15_81 u_inI rfl rfl (Nat.le_of_ble_eq_true rfl) (by decide) ⟨by omega, by omega⟩ ?_
    refine e_if_ne 29 27 dX15_harm_24 rfl rfl (fun c24 => ?_) (fun c24 => ?_)
    · have k24 := jb_ne_t c24
      obtain ⟨x, rfl, xa, xb⟩ := inI_nat (by first | decide | omega) (by first | decide | omega) k24
      have xc : (nI x).toNatClampNeg = x := nI_clamp (by omega)
      refine e_aload_n 30 dX15_harm_29 rfl rfl ?_
      refine e_get 33 (v := (.int (nI (wv 8)))) dX15_harm_30 rfl fl_X15_375_13 (stars_at _ 0 hL rfl) rfl ?_
      refine e_iload_n 34 dX15_harm_33 rfl rfl ?_
      refine e_iadd 35 (v := (nI ((wv 8) + n))) dX15_harm_34 rfl (nI_add (wv 8) n) ?_
      refine e_istore_n 36 (ls' := [some (.ref m), some (.int (nI n)), some (.int (nI x)), some (.int (nI ((wv 8) + n))), none]) dX15_harm_35 rfl (by decide) rfl ?_
      refine e_iconst 37 (v := (nI 0)) dX15_harm_36 rfl (by decide) ?_
      refine e_istore 39 (ls' := [some (.ref m), some (.int (nI n)), some (.int (nI x)), some (.int (nI (wv 8 + n))), some (.int (nI 0))]) dX15_harm_37 rfl (by decide) rfl ?_
      have hL2 : stars [pt m (.inr (13, moF F (upN (upN (upN (mW (tp, an, D, (fr, wv, hs), (v, RQ, RS, SC, er, mb), ck) th AN.length lt lf) 0 0) 33 hs.length) 29 (wv 8)) (decide (wv 5 ≠ 0)))), iar (F 31) 64 (hs.map (·.1)), iar (F 32) 64 (hs.map (·.2)), pt (F 1) (.inl (6, 6, .inr (.inr (.inr (.inr (adD DL)))))), lst rdve DL, iar (F 3) 300 AN, iar (F 5) 260 PD, rst (F 6) er (v 20) (mb 1) (mb 2), rrw (F 12) 16 3 (RQ.map rqE), rrw (F 13) 32 5 (RS.map rsE), rrw (F 14) 8 4 (SC.map scE), iar (F 21) 260 fr, iar (F 34) 400 tp, iar (F 36) 300 an] h := stars_ixn hL 14 rfl [0, 10, 11, 1, 2, 3, 4, 5, 6, 7, 8, 9, 12, 13] (by decide) rfl
      refine l_rharm (w := (upN (mW (tp, an, D, (fr, wv, hs), (v, RQ, RS, SC, er, mb), ck) th AN.length lt lf) 0 0)) (nn := n) (x := x) (b8 := wv 8) lhs hb h8 (by omega) (by omega) (fun h b hB hL => ?_) _ 0 h (Nat.lt_succ_self _) (Nat.zero_le _) (fun j hj => absurd hj (Nat.not_lt_zero j)) hL2
      exact ⟨_, ⟨by rw [hmR, show hmB (nI n) (nI x) = true by simp only [hmB, k13, k24, Bool.true_and], nc, Bool.true_and]; simp only []; rw [hB], by rw [hmG, if_pos (show hmB (nI n) (nI x) = true by simp only [hmB, k13, k24, Bool.true_and]), nc, xc]⟩, rfo_c (g := (tp, an, D, (fr, wv, (teL hs (wv 8 + n) x)), (v, RQ, RS, SC, er, mb), ck)) (th := 0) (F := F) (lt := lt) (lf := lf) (AN := AN) (PD := PD) (DL := DL) (X := []) hc (stars_ixn hL 14 rfl [0, 3, 4, 5, 6, 7, 8, 9, 10, 11, 1, 2, 12, 13] (by decide) rfl)⟩
    · have k24 := jb_ne_f c24
      refine e_iconst 28 (v := (nI 0)) dX15_harm_27 rfl (by decide) ?_
      exact e_zret dX15_harm_28 rfl (Or.inl (by decide)) (by omega) (by omega) (⟨_, ⟨by rw [hmR, show hmB (nI n) x2 = false by simp only [hmB, k13, k24, Bool.true_and, Bool.false_and, Bool.and_false, Bool.and_true]]; rfl, by rw [hmG, if_neg (show ¬ hmB (nI n) x2 = true by rw [show hmB (nI n) x2 = false by simp only [hmB, k13, k24, Bool.true_and, Bool.false_and, Bool.and_false, Bool.and_true]]; decide)]⟩, rfo_c (g := (tp, an, D, (fr, wv, hs), (v, RQ, RS, SC, er, mb), ck)) (th := 0) (F := F) (lt := lt) (lf := lf) (AN := AN) (PD := PD) (DL := DL) (X := []) hc (stars_ixn hL 14 rfl [0, 1, 2, 3, 4, 5, 6, 7, 8, 9, 10, 11, 12, 13] (by decide) rfl)⟩)
set_option maxRecDepth 20000 in
set_option maxHeartbeats 2000000 in
theorem k_X15_state {m th : Nat} {tp an fr : List Nat} {D : List DS} {wv : Nat → Nat} {hs : List (Nat × Nat)} {v : Nat → Nat} {RQ : List RQE} {RS : List RSE} {SC : List SCE} {er : List Nat} {mb : Nat → Bool} {ck : Nat} {x : Int32} (h1 : v 1 ≤ 2) (h2 : wv 2 < 2 ^ 30) : CA mX15_state [.ref m, .int x] [rfo m (tp, an, D, (fr, wv, hs), (v, RQ, RS, SC, er, mb), ck) th] (fun r K => r = some (.int (staR (tp, an, D, (fr, wv, hs), (v, RQ, RS, SC, er, mb), ck) x)) ∧ K = [rfo m (tp, an, D, (fr, wv, hs), (v, RQ, RS, SC, er, mb), ck) 0]) 1 40 0 0 := by
  refine CA.mk 0 (ls := [some (.ref m), some (.int x)]) rfl rfl (Nat.le_of_ble_eq_true rfl) rfl (fun h hL => ?_)
  obtain ⟨F, lt, lf, AN, PD, DL, hc, hL⟩ := rfo_o hL
  have hL : stars [pt m (.inr (13, moF F (mW (tp, an, D, (fr, wv, hs), (v, RQ, RS, SC, er, mb), ck) th AN.length lt lf) (decide (wv 5 ≠ 0)))), pt (F 1) (.inl (6, 6, .inr (.inr (.inr (.inr (adD DL)))))), lst rdve DL, iar (F 3) 300 AN, iar (F 5) 260 PD, rst (F 6) er (v 20) (mb 1) (mb 2), rrw (F 12) 16 3 (RQ.map rqE), rrw (F 13) 32 5 (RS.map rsE), rrw (F 14) 8 4 (SC.map scE), iar (F 21) 260 fr, iar (F 31) 64 (hs.map (·.1)), iar (F 32) 64 (hs.map (·.2)), iar (F 34) 400 tp, iar (F 36) 300 an] h := hL
  have ltp := (iar_V _ 12 hL rfl).le
  have lan := (iar_V _ 13 hL rfl).le
  have lfr := (iar_V _ 9 hL rfl).le
  have lrs : RS.length ≤ 32 := by have z := (rrw_V _ 7 hL rfl).choose_spec.2.2.2.2; rw [List.length_map] at z; exact z
  have lrm : (RS.map rsE).length = RS.length := List.length_map _
  have lrq : RQ.length ≤ 16 := by have z := (rrw_V _ 6 hL rfl).choose_spec.2.2.2.2; rw [List.length_map] at z; exact z
  have lqm : (RQ.map rqE).length = RQ.length := List.length_map _
  have lsc : SC.length ≤ 8 := by have z := (rrw_V _ 8 hL rfl).choose_spec.2.2.2.2; rw [List.length_map] at z; exact z
  have lsm : (SC.map scE).length = SC.length := List.length_map _
  refine e_aload_n 1 dX15_state_0 rfl rfl ?_
  refine e_iconst 2 (v := (nI 0)) dX15_state_1 rfl (by decide) ?_
  refine p_put 5 hL 0 (fs' := moF F (upN (mW (tp, an, D, (fr, wv, hs), (v, RQ, RS, SC, er, mb), ck) th AN.length lt lf) 0 0) (decide (wv 5 ≠ 0))) (L' := [pt m (.inr (13, moF F (upN (mW (tp, an, D, (fr, wv, hs), (v, RQ, RS, SC, er, mb), ck) th AN.length lt lf) 0 0) (decide (wv 5 ≠ 0)))), pt (F 1) (.inl (6, 6, .inr (.inr (.inr (.inr (adD DL)))))), lst rdve DL, iar (F 3) 300 AN, iar (F 5) 260 PD, rst (F 6) er (v 20) (mb 1) (mb 2), rrw (F 12) 16 3 (RQ.map rqE), rrw (F 13) 32 5 (RS.map rsE), rrw (F 14) 8 4 (SC.map scE), iar (F 21) 260 fr, iar (F 31) 64 (hs.map (·.1)), iar (F 32) 64 (hs.map (·.2)), iar (F 34) 400 tp, iar (F 36) 300 an]) rfl rfl dX15_state_2 rfl fp_X15_73_13 (Or.inl rfl) (Nat.le_of_ble_eq_true rfl) rfl rfl rfl (fun h hL => ?_)
  refine e_iload_n 6 dX15_state_5 rfl rfl ?_
  by_cases hx6 : x.toInt < 0 ∨ 16 < x.toInt
  · refine e_tableOut 221 dX15_state_6 hx6 rfl ?_
    refine e_iconst 222 (v := (-1)) dX15_state_221 rfl (by decide) ?_
    exact e_iret dX15_state_222 rfl (by omega) (by omega) (⟨_, ⟨by rw [staR, if_pos hx6], rfl⟩, rfo_c (g := (tp, an, D, (fr, wv, hs), (v, RQ, RS, SC, er, mb), ck)) (th := 0) (F := F) (lt := lt) (lf := lf) (AN := AN) (PD := PD) (DL := DL) (X := []) hc (stars_ixn hL 14 rfl [0, 1, 2, 3, 4, 5, 6, 7, 8, 9, 10, 11, 12, 13] (by decide) rfl)⟩)
  · obtain ⟨n6, e6, r6, t6⟩ := sw_nat (by decide) hx6
    subst e6
    rcases (show (n6 = 0) ∨ (n6 = 1) ∨ (n6 = 2) ∨ (n6 = 3) ∨ (n6 = 4) ∨ (n6 = 5) ∨ (n6 = 6) ∨ (n6 = 7) ∨ (n6 = 8) ∨ (n6 = 9) ∨ (n6 = 10) ∨ (n6 = 11) ∨ (n6 = 12) ∨ (n6 = 13) ∨ (n6 = 14) ∨ (n6 = 15) ∨ (n6 = 16) by omega) with s6 | s6 | s6 | s6 | s6 | s6 | s6 | s6 | s6 | s6 | s6 | s6 | s6 | s6 | s6 | s6 | s6
    · refine e_tableIn 88 (off := 82) dX15_state_6 (by rw [nI_toInt (by omega)]; omega) (by rw [nI_toInt (by omega)]; omega) (by rw [s6]; decide) rfl ?_
      refine e_aload_n 89 dX15_state_88 rfl rfl ?_
      refine e_get 92 (v := (.int (nI ck))) dX15_state_89 rfl fl_X15_362_13 (stars_at _ 0 hL rfl) rfl ?_
      exact e_iret dX15_state_92 rfl (by omega) (by omega) (⟨_, ⟨by rw [staR, if_neg hx6, nI_clamp (show n6 < 2 ^ 31 by omega), show n6 = 0 by omega]; rfl, rfl⟩, rfo_c (g := (tp, an, D, (fr, wv, hs), (v, RQ, RS, SC, er, mb), ck)) (th := 0) (F := F) (lt := lt) (lf := lf) (AN := AN) (PD := PD) (DL := DL) (X := []) hc (stars_ixn hL 14 rfl [0, 1, 2, 3, 4, 5, 6, 7, 8, 9, 10, 11, 12, 13] (by decide) rfl)⟩)
    · refine e_tableIn 93 (off := 87) dX15_state_6 (by rw [nI_toInt (by omega)]; omega) (by rw [nI_toInt (by omega)]; omega) (by rw [s6]; decide) rfl ?_
      refine e_aload_n 94 dX15_state_93 rfl rfl ?_
      refine e_get 97 (v := (.int (nI (wv 1)))) dX15_state_94 rfl fl_X15_340_13 (stars_at _ 0 hL rfl) rfl ?_
      exact e_iret dX15_state_97 rfl (by omega) (by omega) (⟨_, ⟨by rw [staR, if_neg hx6, nI_clamp (show n6 < 2 ^ 31 by omega), show n6 = 1 by omega]; rfl, rfl⟩, rfo_c (g := (tp, an, D, (fr, wv, hs), (v, RQ, RS, SC, er, mb), ck)) (th := 0) (F := F) (lt := lt) (lf := lf) (AN := AN) (PD := PD) (DL := DL) (X := []) hc (stars_ixn hL 14 rfl [0, 1, 2, 3, 4, 5, 6, 7, 8, 9, 10, 11, 12, 13] (by decide) rfl)⟩)
    · refine e_tableIn 98 (off := 92) dX15_state_6 (by rw [nI_toInt (by omega)]; omega) (by rw [nI_toInt (by omega)]; omega) (by rw [s6]; decide) rfl ?_
      refine e_aload_n 99 dX15_state_98 rfl rfl ?_
      refine e_get 102 (v := (.int (nI (wv 2)))) dX15_state_99 rfl fl_X15_54_13 (stars_at _ 0 hL rfl) rfl ?_
      refine e_sipush 105 (v := (nI 1000)) dX15_state_102 rfl (by decide) ?_
      refine e_min 108 (v := (nI (min (wv 2) 1000))) dX15_state_105 rfl mi_X15_282 (by decide) (Nat.le_of_ble_eq_true rfl) (by omega) (min_nJ (by omega) (by decide)) ?_
      exact e_iret dX15_state_108 rfl (by omega) (by omega) (⟨_, ⟨by rw [staR, if_neg hx6, nI_clamp (show n6 < 2 ^ 31 by omega), show n6 = 2 by omega]; rfl, rfl⟩, rfo_c (g := (tp, an, D, (fr, wv, hs), (v, RQ, RS, SC, er, mb), ck)) (th := 0) (F := F) (lt := lt) (lf := lf) (AN := AN) (PD := PD) (DL := DL) (X := []) hc (stars_ixn hL 14 rfl [0, 1, 2, 3, 4, 5, 6, 7, 8, 9, 10, 11, 12, 13] (by decide) rfl)⟩)
    · refine e_tableIn 109 (off := 103) dX15_state_6 (by rw [nI_toInt (by omega)]; omega) (by rw [nI_toInt (by omega)]; omega) (by rw [s6]; decide) rfl ?_
      refine e_aload_n 110 dX15_state_109 rfl rfl ?_
      refine e_get 113 (v := (.int (nI (v 1)))) dX15_state_110 rfl fl_X15_306_13 (stars_at _ 0 hL rfl) rfl ?_
      exact e_iret dX15_state_113 rfl (by omega) (by omega) (⟨_, ⟨by rw [staR, if_neg hx6, nI_clamp (show n6 < 2 ^ 31 by omega), show n6 = 3 by omega]; rfl, rfl⟩, rfo_c (g := (tp, an, D, (fr, wv, hs), (v, RQ, RS, SC, er, mb), ck)) (th := 0) (F := F) (lt := lt) (lf := lf) (AN := AN) (PD := PD) (DL := DL) (X := []) hc (stars_ixn hL 14 rfl [0, 1, 2, 3, 4, 5, 6, 7, 8, 9, 10, 11, 12, 13] (by decide) rfl)⟩)
    · refine e_tableIn 114 (off := 108) dX15_state_6 (by rw [nI_toInt (by omega)]; omega) (by rw [nI_toInt (by omega)]; omega) (by rw [s6]; decide) rfl ?_
      refine e_aload_n 115 dX15_state_114 rfl rfl ?_
      refine e_get 118 (v := (.int (nI (v 1)))) dX15_state_115 rfl fl_X15_306_13 (stars_at _ 0 hL rfl) rfl ?_
      refine e_iconst 119 (v := (nI 2)) dX15_state_118 rfl (by decide) ?_
      refine e_icmp_ne 129 122 dX15_state_119 rfl rfl (fun c119 => ?_) (fun c119 => ?_)
      · have k119 := j_ne_t (a := (v 1)) (b := 2) (by omega) (by omega) c119
        refine e_iconst 130 (v := (nI 0)) dX15_state_129 rfl (by decide) ?_
        exact e_iret dX15_state_130 rfl (by omega) (by omega) (⟨_, ⟨by rw [staR, if_neg hx6, nI_clamp (show n6 < 2 ^ 31 by omega), show n6 = 4 by omega]; show _ = some (Value.int (nI (if v 1 = 2 then v 2 else 0))); rw [if_neg (show ¬ v 1 = 2 by omega)], rfl⟩, rfo_c (g := (tp, an, D, (fr, wv, hs), (v, RQ, RS, SC, er, mb), ck)) (th := 0) (F := F) (lt := lt) (lf := lf) (AN := AN) (PD := PD) (DL := DL) (X := []) hc (stars_ixn hL 14 rfl [0, 1, 2, 3, 4, 5, 6, 7, 8, 9, 10, 11, 12, 13] (by decide) rfl)⟩)
      · have k119 := j_ne_f (a := (v 1)) (b := 2) (by omega) (by omega) c119
        refine e_aload_n 123 dX15_state_122 rfl rfl ?_
        refine e_get 126 (v := (.int (nI (v 2)))) dX15_state_123 rfl fl_X15_400_13 (stars_at _ 0 hL rfl) rfl ?_
        refine e_goto 130 dX15_state_126 rfl ?_
        exact e_iret dX15_state_130 rfl (by omega) (by omega) (⟨_, ⟨by rw [staR, if_neg hx6, nI_clamp (show n6 < 2 ^ 31 by omega), show n6 = 4 by omega]; show _ = some (Value.int (nI (if v 1 = 2 then v 2 else 0))); rw [if_pos (show v 1 = 2 by omega)], rfl⟩, rfo_c (g := (tp, an, D, (fr, wv, hs), (v, RQ, RS, SC, er, mb), ck)) (th := 0) (F := F) (lt := lt) (lf := lf) (AN := AN) (PD := PD) (DL := DL) (X := []) hc (stars_ixn hL 14 rfl [0, 1, 2, 3, 4, 5, 6, 7, 8, 9, 10, 11, 12, 13] (by decide) rfl)⟩)
    · refine e_tableIn 131 (off := 125) dX15_state_6 (by rw [nI_toInt (by omega)]; omega) (by rw [nI_toInt (by omega)]; omega) (by rw [s6]; decide) rfl ?_
      refine e_aload_n 132 dX15_state_131 rfl rfl ?_
      refine e_get 135 (v := (.ref (F 12))) dX15_state_132 rfl fl_X15_44_13 (stars_at _ 0 hL rfl) rfl ?_
      obtain ⟨A135, u135_0, u135_1, u135_2, u135_3, u135_4⟩ := rrw_V _ 6 hL rfl
      refine e_get 138 (v := (.int (nI (RQ.map rqE).length))) dX15_state_135 rfl fl_X15_298_11 u135_0 rfl ?_
      exact e_iret dX15_state_138 rfl (by omega) (by omega) (⟨_, ⟨by rw [staR, if_neg hx6, nI_clamp (show n6 < 2 ^ 31 by omega), show n6 = 5 by omega]; rw [lqm]; rfl, rfl⟩, rfo_c (g := (tp, an, D, (fr, wv, hs), (v, RQ, RS, SC, er, mb), ck)) (th := 0) (F := F) (lt := lt) (lf := lf) (AN := AN) (PD := PD) (DL := DL) (X := []) hc (stars_ixn hL 14 rfl [0, 1, 2, 3, 4, 5, 6, 7, 8, 9, 10, 11, 12, 13] (by decide) rfl)⟩)
    · refine e_tableIn 139 (off := 133) dX15_state_6 (by rw [nI_toInt (by omega)]; omega) (by rw [nI_toInt (by omega)]; omega) (by rw [s6]; decide) rfl ?_
      refine e_aload_n 140 dX15_state_139 rfl rfl ?_
      refine e_get 143 (v := (.ref (F 12))) dX15_state_140 rfl fl_X15_44_13 (stars_at _ 0 hL rfl) rfl ?_
      obtain ⟨A143, u143_0, u143_1, u143_2, u143_3, u143_4⟩ := rrw_V _ 6 hL rfl
      refine e_get 146 (v := (.int (nI (RQ.map rqE).length))) dX15_state_143 rfl fl_X15_298_11 u143_0 rfl ?_
      refine e_if_le 163 149 dX15_state_146 rfl rfl (fun c146 => ?_) (fun c146 => ?_)
      · have k146 := j_le0_t (a := (RQ.map rqE).length) (by omega) c146
        refine e_iconst 164 (v := (nI 0)) dX15_state_163 rfl (by decide) ?_
        exact e_iret dX15_state_164 rfl (by omega) (by omega) (⟨_, ⟨by rw [staR, if_neg hx6, nI_clamp (show n6 < 2 ^ 31 by omega), show n6 = 6 by omega]; show _ = some (Value.int (nI (if RQ.length = 0 then 0 else (RQ.headD ([], 0, 0, 0)).2.2.2))); rw [if_pos (show RQ.length = 0 by omega)], rfl⟩, rfo_c (g := (tp, an, D, (fr, wv, hs), (v, RQ, RS, SC, er, mb), ck)) (th := 0) (F := F) (lt := lt) (lf := lf) (AN := AN) (PD := PD) (DL := DL) (X := []) hc (stars_ixn hL 14 rfl [0, 1, 2, 3, 4, 5, 6, 7, 8, 9, 10, 11, 12, 13] (by decide) rfl)⟩)
      · have k146 := j_le0_f (a := (RQ.map rqE).length) (by omega) c146
        refine e_aload_n 150 dX15_state_149 rfl rfl ?_
        refine e_get 153 (v := (.ref (F 12))) dX15_state_150 rfl fl_X15_44_13 (stars_at _ 0 hL rfl) rfl ?_
        refine e_get 156 (v := (.ref (A143 2))) dX15_state_153 rfl fl_X15_292_11 u143_0 rfl ?_
        refine e_iconst 157 (v := (nI 0)) dX15_state_156 rfl (by decide) ?_
        refine v_aald 158 u143_3 (k := 0) dX15_state_157 rfl (by omega) (by omega) (fun b157 y157 => ?_)
        refine e_iconst 159 (v := (nI 2)) dX15_state_158 rfl (by decide) ?_
        refine v_iald 160 (r := (rE2 (RQ.map rqE) 0)) y157 (k := 2) (x := ((rE2 (RQ.map rqE) 0).getD 2 0)) dX15_state_159 rfl (by rw [rq_0 (show 0 < RQ.length by omega)]; exact Nat.le_of_ble_eq_true rfl) (by omega) rfl ?_
        refine e_goto 164 dX15_state_160 rfl ?_
        exact e_iret dX15_state_164 rfl (by omega) (by omega) (⟨_, ⟨by rw [staR, if_neg hx6, nI_clamp (show n6 < 2 ^ 31 by omega), show n6 = 6 by omega]; show _ = some (Value.int (nI (if RQ.length = 0 then 0 else (RQ.headD ([], 0, 0, 0)).2.2.2))); rw [if_neg (show ¬ RQ.length = 0 by omega), rq_0 (show 0 < RQ.length by omega)]; rfl, rfl⟩, rfo_c (g := (tp, an, D, (fr, wv, hs), (v, RQ, RS, SC, er, mb), ck)) (th := 0) (F := F) (lt := lt) (lf := lf) (AN := AN) (PD := PD) (DL := DL) (X := []) hc (stars_ixn hL 14 rfl [0, 1, 2, 3, 4, 5, 6, 7, 8, 9, 10, 11, 12, 13] (by decide) rfl)⟩)
    · refine e_tableIn 165 (off := 159) dX15_state_6 (by rw [nI_toInt (by omega)]; omega) (by rw [nI_toInt (by omega)]; omega) (by rw [s6]; decide) rfl ?_
      refine e_aload_n 166 dX15_state_165 rfl rfl ?_
      refine e_get 169 (v := (.ref (F 13))) dX15_state_166 rfl fl_X15_48_13 (stars_at _ 0 hL rfl) rfl ?_
      obtain ⟨A169, u169_0, u169_1, u169_2, u169_3, u169_4⟩ := rrw_V _ 7 hL rfl
      refine e_get 172 (v := (.int (nI (RS.map rsE).length))) dX15_state_169 rfl fl_X15_298_11 u169_0 rfl ?_
      exact e_iret dX15_state_172 rfl (by omega) (by omega) (⟨_, ⟨by rw [staR, if_neg hx6, nI_clamp (show n6 < 2 ^ 31 by omega), show n6 = 7 by omega]; rw [lrm]; rfl, rfl⟩, rfo_c (g := (tp, an, D, (fr, wv, hs), (v, RQ, RS, SC, er, mb), ck)) (th := 0) (F := F) (lt := lt) (lf := lf) (AN := AN) (PD := PD) (DL := DL) (X := []) hc (stars_ixn hL 14 rfl [0, 1, 2, 3, 4, 5, 6, 7, 8, 9, 10, 11, 12, 13] (by decide) rfl)⟩)
    · refine e_tableIn 173 (off := 167) dX15_state_6 (by rw [nI_toInt (by omega)]; omega) (by rw [nI_toInt (by omega)]; omega) (by rw [s6]; decide) rfl ?_
      refine e_aload_n 174 dX15_state_173 rfl rfl ?_
      refine e_get 177 (v := (.int (nI (v 13)))) dX15_state_174 rfl fl_X15_299_13 (stars_at _ 0 hL rfl) rfl ?_
      exact e_iret dX15_state_177 rfl (by omega) (by omega) (⟨_, ⟨by rw [staR, if_neg hx6, nI_clamp (show n6 < 2 ^ 31 by omega), show n6 = 8 by omega]; rfl, rfl⟩, rfo_c (g := (tp, an, D, (fr, wv, hs), (v, RQ, RS, SC, er, mb), ck)) (th := 0) (F := F) (lt := lt) (lf := lf) (AN := AN) (PD := PD) (DL := DL) (X := []) hc (stars_ixn hL 14 rfl [0, 1, 2, 3, 4, 5, 6, 7, 8, 9, 10, 11, 12, 13] (by decide) rfl)⟩)
    · refine e_tableIn 178 (off := 172) dX15_state_6 (by rw [nI_toInt (by omega)]; omega) (by rw [nI_toInt (by omega)]; omega) (by rw [s6]; decide) rfl ?_
      refine e_aload_n 179 dX15_state_178 rfl rfl ?_
      refine e_get 182 (v := (.int (nI (v 14)))) dX15_state_179 rfl fl_X15_313_13 (stars_at _ 0 hL rfl) rfl ?_
      exact e_iret dX15_state_182 rfl (by omega) (by omega) (⟨_, ⟨by rw [staR, if_neg hx6, nI_clamp (show n6 < 2 ^ 31 by omega), show n6 = 9 by omega]; rfl, rfl⟩, rfo_c (g := (tp, an, D, (fr, wv, hs), (v, RQ, RS, SC, er, mb), ck)) (th := 0) (F := F) (lt := lt) (lf := lf) (AN := AN) (PD := PD) (DL := DL) (X := []) hc (stars_ixn hL 14 rfl [0, 1, 2, 3, 4, 5, 6, 7, 8, 9, 10, 11, 12, 13] (by decide) rfl)⟩)
    · refine e_tableIn 183 (off := 177) dX15_state_6 (by rw [nI_toInt (by omega)]; omega) (by rw [nI_toInt (by omega)]; omega) (by rw [s6]; decide) rfl ?_
      refine e_aload_n 184 dX15_state_183 rfl rfl ?_
      refine e_get 187 (v := (.int (nI (wv 9)))) dX15_state_184 rfl fl_X15_394_13 (stars_at _ 0 hL rfl) rfl ?_
      exact e_iret dX15_state_187 rfl (by omega) (by omega) (⟨_, ⟨by rw [staR, if_neg hx6, nI_clamp (show n6 < 2 ^ 31 by omega), show n6 = 10 by omega]; rfl, rfl⟩, rfo_c (g := (tp, an, D, (fr, wv, hs), (v, RQ, RS, SC, er, mb), ck)) (th := 0) (F := F) (lt := lt) (lf := lf) (AN := AN) (PD := PD) (DL := DL) (X := []) hc (stars_ixn hL 14 rfl [0, 1, 2, 3, 4, 5, 6, 7, 8, 9, 10, 11, 12, 13] (by decide) rfl)⟩)
    · refine e_tableIn 188 (off := 182) dX15_state_6 (by rw [nI_toInt (by omega)]; omega) (by rw [nI_toInt (by omega)]; omega) (by rw [s6]; decide) rfl ?_
      refine e_aload_n 189 dX15_state_188 rfl rfl ?_
      refine e_get 192 (v := (.int (nI hs.length))) dX15_state_189 rfl fl_X15_372_13 (stars_at _ 0 hL rfl) rfl ?_
      exact e_iret dX15_state_192 rfl (by omega) (by omega) (⟨_, ⟨by rw [staR, if_neg hx6, nI_clamp (show n6 < 2 ^ 31 by omega), show n6 = 11 by omega]; rfl, rfl⟩, rfo_c (g := (tp, an, D, (fr, wv, hs), (v, RQ, RS, SC, er, mb), ck)) (th := 0) (F := F) (lt := lt) (lf := lf) (AN := AN) (PD := PD) (DL := DL) (X := []) hc (stars_ixn hL 14 rfl [0, 1, 2, 3, 4, 5, 6, 7, 8, 9, 10, 11, 12, 13] (by decide) rfl)⟩)
    · refine e_tableIn 193 (off := 187) dX15_state_6 (by rw [nI_toInt (by omega)]; omega) (by rw [nI_toInt (by omega)]; omega) (by rw [s6]; decide) rfl ?_
      refine e_aload_n 194 dX15_state_193 rfl rfl ?_
      refine e_get 197 (v := (.int (nI D.length))) dX15_state_194 rfl fl_X15_78_13 (stars_at _ 0 hL rfl) rfl ?_
      exact e_iret dX15_state_197 rfl (by omega) (by omega) (⟨_, ⟨by rw [staR, if_neg hx6, nI_clamp (show n6 < 2 ^ 31 by omega), show n6 = 12 by omega]; rfl, rfl⟩, rfo_c (g := (tp, an, D, (fr, wv, hs), (v, RQ, RS, SC, er, mb), ck)) (th := 0) (F := F) (lt := lt) (lf := lf) (AN := AN) (PD := PD) (DL := DL) (X := []) hc (stars_ixn hL 14 rfl [0, 1, 2, 3, 4, 5, 6, 7, 8, 9, 10, 11, 12, 13] (by decide) rfl)⟩)
    · refine e_tableIn 198 (off := 192) dX15_state_6 (by rw [nI_toInt (by omega)]; omega) (by rw [nI_toInt (by omega)]; omega) (by rw [s6]; decide) rfl ?_
      refine e_aload_n 199 dX15_state_198 rfl rfl ?_
      refine e_get 202 (v := (.ref (F 14))) dX15_state_199 rfl fl_X15_51_13 (stars_at _ 0 hL rfl) rfl ?_
      obtain ⟨A202, u202_0, u202_1, u202_2, u202_3, u202_4⟩ := rrw_V _ 8 hL rfl
      refine e_get 205 (v := (.int (nI (SC.map scE).length))) dX15_state_202 rfl fl_X15_298_11 u202_0 rfl ?_
      exact e_iret dX15_state_205 rfl (by omega) (by omega) (⟨_, ⟨by rw [staR, if_neg hx6, nI_clamp (show n6 < 2 ^ 31 by omega), show n6 = 13 by omega]; rw [lsm]; rfl, rfl⟩, rfo_c (g := (tp, an, D, (fr, wv, hs), (v, RQ, RS, SC, er, mb), ck)) (th := 0) (F := F) (lt := lt) (lf := lf) (AN := AN) (PD := PD) (DL := DL) (X := []) hc (stars_ixn hL 14 rfl [0, 1, 2, 3, 4, 5, 6, 7, 8, 9, 10, 11, 12, 13] (by decide) rfl)⟩)
    · refine e_tableIn 206 (off := 200) dX15_state_6 (by rw [nI_toInt (by omega)]; omega) (by rw [nI_toInt (by omega)]; omega) (by rw [s6]; decide) rfl ?_
      refine e_aload_n 207 dX15_state_206 rfl rfl ?_
      refine e_get 210 (v := (.int (nI tp.length))) dX15_state_207 rfl fl_X15_432_13 (stars_at _ 0 hL rfl) rfl ?_
      exact e_iret dX15_state_210 rfl (by omega) (by omega) (⟨_, ⟨by rw [staR, if_neg hx6, nI_clamp (show n6 < 2 ^ 31 by omega), show n6 = 14 by omega]; rfl, rfl⟩, rfo_c (g := (tp, an, D, (fr, wv, hs), (v, RQ, RS, SC, er, mb), ck)) (th := 0) (F := F) (lt := lt) (lf := lf) (AN := AN) (PD := PD) (DL := DL) (X := []) hc (stars_ixn hL 14 rfl [0, 1, 2, 3, 4, 5, 6, 7, 8, 9, 10, 11, 12, 13] (by decide) rfl)⟩)
    · refine e_tableIn 211 (off := 205) dX15_state_6 (by rw [nI_toInt (by omega)]; omega) (by rw [nI_toInt (by omega)]; omega) (by rw [s6]; decide) rfl ?_
      refine e_aload_n 212 dX15_state_211 rfl rfl ?_
      refine e_get 215 (v := (.int (nI an.length))) dX15_state_212 rfl fl_X15_474_13 (stars_at _ 0 hL rfl) rfl ?_
      exact e_iret dX15_state_215 rfl (by omega) (by omega) (⟨_, ⟨by rw [staR, if_neg hx6, nI_clamp (show n6 < 2 ^ 31 by omega), show n6 = 15 by omega]; rfl, rfl⟩, rfo_c (g := (tp, an, D, (fr, wv, hs), (v, RQ, RS, SC, er, mb), ck)) (th := 0) (F := F) (lt := lt) (lf := lf) (AN := AN) (PD := PD) (DL := DL) (X := []) hc (stars_ixn hL 14 rfl [0, 1, 2, 3, 4, 5, 6, 7, 8, 9, 10, 11, 12, 13] (by decide) rfl)⟩)
    · refine e_tableIn 216 (off := 210) dX15_state_6 (by rw [nI_toInt (by omega)]; omega) (by rw [nI_toInt (by omega)]; omega) (by rw [s6]; decide) rfl ?_
      refine e_aload_n 217 dX15_state_216 rfl rfl ?_
      refine e_get 220 (v := (.int (nI (wv 10)))) dX15_state_217 rfl fl_X15_355_13 (stars_at _ 0 hL rfl) rfl ?_
      exact e_iret dX15_state_220 rfl (by omega) (by omega) (⟨_, ⟨by rw [staR, if_neg hx6, nI_clamp (show n6 < 2 ^ 31 by omega), show n6 = 16 by omega]; rfl, rfl⟩, rfo_c (g := (tp, an, D, (fr, wv, hs), (v, RQ, RS, SC, er, mb), ck)) (th := 0) (F := F) (lt := lt) (lf := lf) (AN := AN) (PD := PD) (DL := DL) (X := []) hc (stars_ixn hL 14 rfl [0, 1, 2, 3, 4, 5, 6, 7, 8, 9, 10, 11, 12, 13] (by decide) rfl)⟩)
