/-! the reference: its public methods on a device, third part -/
theorem z_up {g : Nat → Int32} {i : Nat} (h : ∀ j, j < i → g j = nI 0) : ∀ j, j < i + 1 → upd g i (nI 0) j = nI 0 := by
  intro j hj
  unfold upd
  split
  · rfl
  · exact h j (by omega)
theorem z_rep {g : Nat → Int32} {n N : Nat} (hn : n ≤ N) (h : ∀ j, j < N → g j = nI 0) : (List.replicate n 0).length ≤ N ∧ ∀ j, j < (List.replicate n 0).length → g j = nI ((List.replicate n 0).getD j 0) := by
  rw [List.length_replicate]
  refine ⟨hn, fun j hj => ?_⟩
  rw [h j (by omega)]
  simp [List.getD, hj]
theorem iw_tb {m n v : Nat} {f f' : Nat → Nat} (hm : m < n) (h1 : f' m = v) (h2 : ∀ i, i < m → f' i = f i) : (tbl (m + 1) f').length ≤ n ∧ ∀ j, j < (tbl (m + 1) f').length → (j = m ∧ (tbl (m + 1) f').getD j 0 = v) ∨ (j ≠ m ∧ j < (tbl m f).length ∧ (tbl (m + 1) f').getD j 0 = (tbl m f).getD j 0) := by
  rw [tbl_len, tbl_len]
  refine ⟨hm, fun j hj => ?_⟩
  rw [tbl_at hj]
  by_cases e : j = m
  · exact Or.inl ⟨e, by rw [e, h1]⟩
  · exact Or.inr ⟨e, by omega, by rw [tbl_at (by omega), h2 j (by omega)]⟩
theorem upN_ne {v : Nat → Nat} {k x j : Nat} (h : j ≠ k) : upN v k x j = v j := if_neg h
theorem upN_eq {v : Nat → Nat} {k x : Nat} : upN v k x k = x := if_pos rfl
theorem lmA_at {lm : Nat → Nat} {n a m lo hi i j : Nat} (hi9 : i < n) (hj : j < 4) : lmA lm n a m lo hi (i * 4 + j) = lm (i * 4 + j) := by
  unfold lmA
  rw [upN_ne (by omega), upN_ne (by omega), upN_ne (by omega), upN_ne (by omega)]
theorem lmA_new {lm : Nat → Nat} {n a m lo hi : Nat} : lmA lm n a m lo hi (n * 4 + 0) = a ∧ lmA lm n a m lo hi (n * 4 + 1) = a + m - 1 ∧ lmA lm n a m lo hi (n * 4 + 2) = lo ∧ lmA lm n a m lo hi (n * 4 + 3) = hi := by
  unfold lmA
  refine ⟨?_, ?_, ?_, upN_eq⟩
  · rw [upN_ne (by omega), upN_ne (by omega), upN_ne (by omega)]; exact upN_eq
  · rw [upN_ne (by omega), upN_ne (by omega)]; exact upN_eq
  · rw [upN_ne (by omega)]; exact upN_eq
theorem iw_pl {L : Nat → List Nat} {k n : Nat} (hk : k < 4) : let L' := upL L k (List.replicate n 0); [(L' 0).length, (L' 1).length, (L' 2).length, (L' 3).length].length ≤ 4 ∧ ∀ j, j < [(L' 0).length, (L' 1).length, (L' 2).length, (L' 3).length].length → (j = k ∧ [(L' 0).length, (L' 1).length, (L' 2).length, (L' 3).length].getD j 0 = n) ∨ (j ≠ k ∧ j < [(L 0).length, (L 1).length, (L 2).length, (L 3).length].length ∧ [(L' 0).length, (L' 1).length, (L' 2).length, (L' 3).length].getD j 0 = [(L 0).length, (L 1).length, (L 2).length, (L 3).length].getD j 0) := by
  intro L'
  have g : ∀ (f : Nat → List Nat) j, j < 4 → [(f 0).length, (f 1).length, (f 2).length, (f 3).length].getD j 0 = (f j).length := fun f j hj => by
    match j, hj with
    | 0, _ => rfl
    | 1, _ => rfl
    | 2, _ => rfl
    | 3, _ => rfl
  refine ⟨Nat.le_refl 4, fun j hj => ?_⟩
  have hj4 : j < 4 := hj
  rw [g L' j hj4, g L j hj4]
  by_cases e : j = k
  · refine Or.inl ⟨e, ?_⟩
    show (upL L k (List.replicate n 0) j).length = n
    rw [e, upL_s, List.length_replicate]
  · refine Or.inr ⟨e, hj4, ?_⟩
    show (upL L k (List.replicate n 0) j).length = _
    rw [upL_n e]
theorem qd4_up {L : Nat → List Nat} {k : Nat} {r : List Nat} : ∀ j, j < 4 → upL (qd4 (L 0) (L 1) (L 2) (L 3)) k r j = qd4 (upL L k r 0) (upL L k r 1) (upL L k r 2) (upL L k r 3) j := fun j hj => by
  rw [qd4_at (f := upL L k r) hj]
  by_cases z : j = k
  · rw [z, upL_s, upL_s]
  · rw [upL_n z, upL_n z, qd4_at (f := L) hj]
set_option maxRecDepth 20000 in
set_option maxHeartbeats 2000000 in
theorem k_X15_rule {m th : Nat} {tp an fr : List Nat} {D : List DS} {wv : Nat → Nat} {hs : List (Nat × Nat)} {v : Nat → Nat} {RQ : List RQE} {RS : List RSE} {SC : List SCE} {er : List Nat} {mb : Nat → Bool} {ck : Nat} (hE : ∀ s ∈ D, okD s ∧ okE s) {x1 x2 x3 x4 x5 : Int32} : CA mX15_rule [.ref m, .int x1, .int x2, .int x3, .int x4, .int x5] [rfo m (tp, an, D, (fr, wv, hs), (v, RQ, RS, SC, er, mb), ck) th] (fun r K => r = some (.int (bI (ruC (tp, an, D, (fr, wv, hs), (v, RQ, RS, SC, er, mb), ck) x1 x2 x3 x4 x5))) ∧ K = [rfo m (ruG (tp, an, D, (fr, wv, hs), (v, RQ, RS, SC, er, mb), ck) x1 x2 x3 x4 x5) 0]) 2 60 0 0 := by
  refine CA.mk 1 (ls := [some (.ref m), some (.int x1), some (.int x2), some (.int x3), some (.int x4), some (.int x5), none]) rfl rfl (Nat.le_of_ble_eq_true rfl) rfl (fun h hL => ?_)
  obtain ⟨F, lt, lf, AN, PD, DL, hc, hL⟩ := rfo_o hL
  have hL : stars [pt m (.inr (13, moF F (mW (tp, an, D, (fr, wv, hs), (v, RQ, RS, SC, er, mb), ck) th AN.length lt lf) (decide (wv 5 ≠ 0)))), pt (F 1) (.inl (6, 6, .inr (.inr (.inr (.inr (adD DL)))))), lst rdve DL, iar (F 3) 300 AN, iar (F 5) 260 PD, rst (F 6) er (v 20) (mb 1) (mb 2), rrw (F 12) 16 3 (RQ.map rqE), rrw (F 13) 32 5 (RS.map rsE), rrw (F 14) 8 4 (SC.map scE), iar (F 21) 260 fr, iar (F 31) 64 (hs.map (·.1)), iar (F 32) 64 (hs.map (·.2)), iar (F 34) 400 tp, iar (F 36) 300 an] h := hL
  have ltp := (iar_V _ 12 hL rfl).le
  have lan := (iar_V _ 13 hL rfl).le
  have lfr := (iar_V _ 9 hL rfl).le
  have h6 : D.length ≤ 6 := hc.2.1
  have hl9 := rfC_len hc
  refine e_aload_n 1 dX15_rule_0 rfl rfl ?_
  refine e_iconst 2 (v := (nI 0)) dX15_rule_1 rfl (by decide) ?_
  refine p_put 5 hL 0 (fs' := moF F (upN (mW (tp, an, D, (fr, wv, hs), (v, RQ, RS, SC, er, mb), ck) th AN.length lt lf) 0 0) (decide (wv 5 ≠ 0))) (L' := [pt m (.inr (13, moF F (upN (mW (tp, an, D, (fr, wv, hs), (v, RQ, RS, SC, er, mb), ck) th AN.length lt lf) 0 0) (decide (wv 5 ≠ 0)))), pt (F 1) (.inl (6, 6, .inr (.inr (.inr (.inr (adD DL)))))), lst rdve DL, iar (F 3) 300 AN, iar (F 5) 260 PD, rst (F 6) er (v 20) (mb 1) (mb 2), rrw (F 12) 16 3 (RQ.map rqE), rrw (F 13) 32 5 (RS.map rsE), rrw (F 14) 8 4 (SC.map scE), iar (F 21) 260 fr, iar (F 31) 64 (hs.map (·.1)), iar (F 32) 64 (hs.map (·.2)), iar (F 34) 400 tp, iar (F 36) 300 an]) rfl rfl dX15_rule_2 rfl fp_X15_73_13 (Or.inl rfl) (Nat.le_of_ble_eq_true rfl) rfl rfl rfl (fun h hL => ?_)
  refine e_aload_n 6 dX15_rule_5 rfl rfl ?_
  refine e_iload_n 7 dX15_rule_6 rfl rfl ?_
  refine u_callV 10 dX15_rule_7 rfl cv_X15_435 (stars_at _ 0 hL rfl) (u_isDev (n := D.length) (stars_at _ 0 hL rfl) rfl (by omega)) rfl rfl (Nat.le_of_ble_eq_true rfl) (by decide) ⟨by omega, by omega⟩ ?_
  refine e_if_eq 69 13 dX15_rule_10 rfl rfl (fun c10 => ?_) (fun c10 => ?_)
  · have k10 := jb_eq_t c10
    refine e_iconst 70 (v := (nI 0)) dX15_rule_69 rfl (by decide) ?_
    exact e_zret dX15_rule_70 rfl (Or.inl (by decide)) (by omega) (by omega) (⟨_, ⟨by rw [show ruC (tp, an, D, (fr, wv, hs), (v, RQ, RS, SC, er, mb), ck) x1 x2 x3 x4 x5 = false by show (dIn D.length _ && _) = _; rw [k10]; rfl]; rfl, by rw [ruG, if_neg (show ¬ ruC (tp, an, D, (fr, wv, hs), (v, RQ, RS, SC, er, mb), ck) x1 x2 x3 x4 x5 = true by rw [show ruC (tp, an, D, (fr, wv, hs), (v, RQ, RS, SC, er, mb), ck) x1 x2 x3 x4 x5 = false by show (dIn D.length _ && _) = _; rw [k10]; rfl]; decide)]⟩, rfo_c (g := (tp, an, D, (fr, wv, hs), (v, RQ, RS, SC, er, mb), ck)) (th := 0) (F := F) (lt := lt) (lf := lf) (AN := AN) (PD := PD) (DL := DL) (X := []) hc (stars_ixn hL 14 rfl [0, 1, 2, 3, 4, 5, 6, 7, 8, 9, 10, 11, 12, 13] (by decide) rfl)⟩)
  · have k10 := jb_eq_f c10
    obtain ⟨i, rfl, hi⟩ := dIn_nat (by omega) k10
    have ic : (nI i).toNatClampNeg = i := nI_clamp (by omega)
    obtain ⟨⟨d, s⟩, he⟩ : ∃ e, DL[i]? = some e := ⟨_, List.getElem?_eq_getElem (show i < DL.length by omega)⟩
    have hsD : D[i]? = some s := rfC_at hc he hi
    have hg : gD (tp, an, D, (fr, wv, hs), (v, RQ, RS, SC, er, mb), ck) i = s := gD_of hsD
    obtain ⟨hok, hoe⟩ := hE s (List.mem_of_getElem? hsD)
    have l4 : (dL s 4).length ≤ 48 := hoe.2.2.1.1
    have m4 : (dL s 4).length % 4 = 0 := hok.2.2.2.2.2.1.1
    refine e_iload_n 14 dX15_rule_13 rfl rfl ?_
    refine e_iconst 15 (v := (nI 0)) dX15_rule_14 rfl (by decide) ?_
    refine e_bipush 17 (v := (nI 6)) dX15_rule_15 rfl (by decide) ?_
    refine u_callS 20 dX15_rule_17 rfl cs_X15_81 u_inI rfl rfl (Nat.le_of_ble_eq_true rfl) (by decide) ⟨by omega, by omega⟩ ?_
    refine e_if_eq 69 23 dX15_rule_20 rfl rfl (fun c20 => ?_) (fun c20 => ?_)
    · have k20 := jb_eq_t c20
      refine e_iconst 70 (v := (nI 0)) dX15_rule_69 rfl (by decide) ?_
      exact e_zret dX15_rule_70 rfl (Or.inl (by decide)) (by omega) (by omega) (⟨_, ⟨by rw [show ruC (tp, an, D, (fr, wv, hs), (v, RQ, RS, SC, er, mb), ck) (nI i) x2 x3 x4 x5 = false by show (dIn D.length (nI i) && (inI x2 (nI 0) (nI 6) && (inI x3 (nI 0) (nI 65535) && (inI x4 (nI 0) (nI 65535) && (inI x5 (nI 0) (nI 65535) && decide ((dL (gD (tp, an, D, (fr, wv, hs), (v, RQ, RS, SC, er, mb), ck) (nI i).toNatClampNeg) 4).length < 48)))))) = _; rw [k10, k20]; rfl]; rfl, by rw [ruG, if_neg (show ¬ ruC (tp, an, D, (fr, wv, hs), (v, RQ, RS, SC, er, mb), ck) (nI i) x2 x3 x4 x5 = true by rw [show ruC (tp, an, D, (fr, wv, hs), (v, RQ, RS, SC, er, mb), ck) (nI i) x2 x3 x4 x5 = false by show (dIn D.length (nI i) && (inI x2 (nI 0) (nI 6) && (inI x3 (nI 0) (nI 65535) && (inI x4 (nI 0) (nI 65535) && (inI x5 (nI 0) (nI 65535) && decide ((dL (gD (tp, an, D, (fr, wv, hs), (v, RQ, RS, SC, er, mb), ck) (nI i).toNatClampNeg) 4).length < 48)))))) = _; rw [k10, k20]; rfl]; decide)]⟩, rfo_c (g := (tp, an, D, (fr, wv, hs), (v, RQ, RS, SC, er, mb), ck)) (th := 0) (F := F) (lt := lt) (lf := lf) (AN := AN) (PD := PD) (DL := DL) (X := []) hc (stars_ixn hL 14 rfl [0, 1, 2, 3, 4, 5, 6, 7, 8, 9, 10, 11, 12, 13] (by decide) rfl)⟩)
    · have k20 := jb_eq_f c20
      obtain ⟨k, rfl, ka, kb⟩ := inI_nat (by first | decide | omega) (by first | decide | omega) k20
      have kc : (nI k).toNatClampNeg = k := nI_clamp (by omega)
      refine e_iload_n 24 dX15_rule_23 rfl rfl ?_
      refine e_iconst 25 (v := (nI 0)) dX15_rule_24 rfl (by decide) ?_
      refine e_ldc 27 (v := (nI 65535)) dX15_rule_25 rfl cn_X15_76 ?_
      refine u_callS 30 dX15_rule_27 rfl cs_X15_81 u_inI rfl rfl (Nat.le_of_ble_eq_true rfl) (by decide) ⟨by omega, by omega⟩ ?_
      refine e_if_eq 69 33 dX15_rule_30 rfl rfl (fun c30 => ?_) (fun c30 => ?_)
      · have k30 := jb_eq_t c30
        refine e_iconst 70 (v := (nI 0)) dX15_rule_69 rfl (by decide) ?_
        exact e_zret dX15_rule_70 rfl (Or.inl (by decide)) (by omega) (by omega) (⟨_, ⟨by rw [show ruC (tp, an, D, (fr, wv, hs), (v, RQ, RS, SC, er, mb), ck) (nI i) (nI k) x3 x4 x5 = false by show (dIn D.length (nI i) && (inI (nI k) (nI 0) (nI 6) && (inI x3 (nI 0) (nI 65535) && (inI x4 (nI 0) (nI 65535) && (inI x5 (nI 0) (nI 65535) && decide ((dL (gD (tp, an, D, (fr, wv, hs), (v, RQ, RS, SC, er, mb), ck) (nI i).toNatClampNeg) 4).length < 48)))))) = _; rw [k10, k20, k30]; rfl]; rfl, by rw [ruG, if_neg (show ¬ ruC (tp, an, D, (fr, wv, hs), (v, RQ, RS, SC, er, mb), ck) (nI i) (nI k) x3 x4 x5 = true by rw [show ruC (tp, an, D, (fr, wv, hs), (v, RQ, RS, SC, er, mb), ck) (nI i) (nI k) x3 x4 x5 = false by show (dIn D.length (nI i) && (inI (nI k) (nI 0) (nI 6) && (inI x3 (nI 0) (nI 65535) && (inI x4 (nI 0) (nI 65535) && (inI x5 (nI 0) (nI 65535) && decide ((dL (gD (tp, an, D, (fr, wv, hs), (v, RQ, RS, SC, er, mb), ck) (nI i).toNatClampNeg) 4).length < 48)))))) = _; rw [k10, k20, k30]; rfl]; decide)]⟩, rfo_c (g := (tp, an, D, (fr, wv, hs), (v, RQ, RS, SC, er, mb), ck)) (th := 0) (F := F) (lt := lt) (lf := lf) (AN := AN) (PD := PD) (DL := DL) (X := []) hc (stars_ixn hL 14 rfl [0, 1, 2, 3, 4, 5, 6, 7, 8, 9, 10, 11, 12, 13] (by decide) rfl)⟩)
      · have k30 := jb_eq_f c30
        obtain ⟨a, rfl, aa, ab⟩ := inI_nat (by first | decide | omega) (by first | decide | omega) k30
        have ac : (nI a).toNatClampNeg = a := nI_clamp (by omega)
        refine e_iload 35 dX15_rule_33 rfl rfl ?_
        refine e_iconst 36 (v := (nI 0)) dX15_rule_35 rfl (by decide) ?_
        refine e_ldc 38 (v := (nI 65535)) dX15_rule_36 rfl cn_X15_76 ?_
        refine u_callS 41 dX15_rule_38 rfl cs_X15_81 u_inI rfl rfl (Nat.le_of_ble_eq_true rfl) (by decide) ⟨by omega, by omega⟩ ?_
        refine e_if_eq 69 44 dX15_rule_41 rfl rfl (fun c41 => ?_) (fun c41 => ?_)
        · have k41 := jb_eq_t c41
          refine e_iconst 70 (v := (nI 0)) dX15_rule_69 rfl (by decide) ?_
          exact e_zret dX15_rule_70 rfl (Or.inl (by decide)) (by omega) (by omega) (⟨_, ⟨by rw [show ruC (tp, an, D, (fr, wv, hs), (v, RQ, RS, SC, er, mb), ck) (nI i) (nI k) (nI a) x4 x5 = false by show (dIn D.length (nI i) && (inI (nI k) (nI 0) (nI 6) && (inI (nI a) (nI 0) (nI 65535) && (inI x4 (nI 0) (nI 65535) && (inI x5 (nI 0) (nI 65535) && decide ((dL (gD (tp, an, D, (fr, wv, hs), (v, RQ, RS, SC, er, mb), ck) (nI i).toNatClampNeg) 4).length < 48)))))) = _; rw [k10, k20, k30, k41]; rfl]; rfl, by rw [ruG, if_neg (show ¬ ruC (tp, an, D, (fr, wv, hs), (v, RQ, RS, SC, er, mb), ck) (nI i) (nI k) (nI a) x4 x5 = true by rw [show ruC (tp, an, D, (fr, wv, hs), (v, RQ, RS, SC, er, mb), ck) (nI i) (nI k) (nI a) x4 x5 = false by show (dIn D.length (nI i) && (inI (nI k) (nI 0) (nI 6) && (inI (nI a) (nI 0) (nI 65535) && (inI x4 (nI 0) (nI 65535) && (inI x5 (nI 0) (nI 65535) && decide ((dL (gD (tp, an, D, (fr, wv, hs), (v, RQ, RS, SC, er, mb), ck) (nI i).toNatClampNeg) 4).length < 48)))))) = _; rw [k10, k20, k30, k41]; rfl]; decide)]⟩, rfo_c (g := (tp, an, D, (fr, wv, hs), (v, RQ, RS, SC, er, mb), ck)) (th := 0) (F := F) (lt := lt) (lf := lf) (AN := AN) (PD := PD) (DL := DL) (X := []) hc (stars_ixn hL 14 rfl [0, 1, 2, 3, 4, 5, 6, 7, 8, 9, 10, 11, 12, 13] (by decide) rfl)⟩)
        · have k41 := jb_eq_f c41
          obtain ⟨b, rfl, ba, bb⟩ := inI_nat (by first | decide | omega) (by first | decide | omega) k41
          have bc : (nI b).toNatClampNeg = b := nI_clamp (by omega)
          refine e_iload 46 dX15_rule_44 rfl rfl ?_
          refine e_iconst 47 (v := (nI 0)) dX15_rule_46 rfl (by decide) ?_
          refine e_ldc 49 (v := (nI 65535)) dX15_rule_47 rfl cn_X15_76 ?_
          refine u_callS 52 dX15_rule_49 rfl cs_X15_81 u_inI rfl rfl (Nat.le_of_ble_eq_true rfl) (by decide) ⟨by omega, by omega⟩ ?_
          refine e_if_eq 69 55 dX15_rule_52 rfl rfl (fun c52 => ?_) (fun c52 => ?_)
          · have k52 := jb_eq_t c52
            refine e_iconst 70 (v := (nI 0)) dX15_rule_69 rfl (by decide) ?_
            exact e_zret dX15_rule_70 rfl (Or.inl (by decide)) (by omega) (by omega) (⟨_, ⟨by rw [show ruC (tp, an, D, (fr, wv, hs), (v, RQ, RS, SC, er, mb), ck) (nI i) (nI k) (nI a) (nI b) x5 = false by show (dIn D.length (nI i) && (inI (nI k) (nI 0) (nI 6) && (inI (nI a) (nI 0) (nI 65535) && (inI (nI b) (nI 0) (nI 65535) && (inI x5 (nI 0) (nI 65535) && decide ((dL (gD (tp, an, D, (fr, wv, hs), (v, RQ, RS, SC, er, mb), ck) (nI i).toNatClampNeg) 4).length < 48)))))) = _; rw [k10, k20, k30, k41, k52]; rfl]; rfl, by rw [ruG, if_neg (show ¬ ruC (tp, an, D, (fr, wv, hs), (v, RQ, RS, SC, er, mb), ck) (nI i) (nI k) (nI a) (nI b) x5 = true by rw [show ruC (tp, an, D, (fr, wv, hs), (v, RQ, RS, SC, er, mb), ck) (nI i) (nI k) (nI a) (nI b) x5 = false by show (dIn D.length (nI i) && (inI (nI k) (nI 0) (nI 6) && (inI (nI a) (nI 0) (nI 65535) && (inI (nI b) (nI 0) (nI 65535) && (inI x5 (nI 0) (nI 65535) && decide ((dL (gD (tp, an, D, (fr, wv, hs), (v, RQ, RS, SC, er, mb), ck) (nI i).toNatClampNeg) 4).length < 48)))))) = _; rw [k10, k20, k30, k41, k52]; rfl]; decide)]⟩, rfo_c (g := (tp, an, D, (fr, wv, hs), (v, RQ, RS, SC, er, mb), ck)) (th := 0) (F := F) (lt := lt) (lf := lf) (AN := AN) (PD := PD) (DL := DL) (X := []) hc (stars_ixn hL 14 rfl [0, 1, 2, 3, 4, 5, 6, 7, 8, 9, 10, 11, 12, 13] (by decide) rfl)⟩)
          · have k52 := jb_eq_f c52
            obtain ⟨c, rfl, ca, cb⟩ := inI_nat (by first | decide | omega) (by first | decide | omega) k52
            have cc : (nI c).toNatClampNeg = c := nI_clamp (by omega)
            refine e_aload_n 56 dX15_rule_55 rfl rfl ?_
            refine e_get 59 (v := (.ref (F 1))) dX15_rule_56 rfl fl_X15_9_13 (stars_at _ 0 hL rfl) rfl ?_
            refine e_iload_n 60 dX15_rule_59 rfl rfl ?_
            refine p_aaldD 61 hL 1 (v := d) (k := i) rfl (adD_at he) dX15_rule_60 rfl (by omega) ?_
            obtain ⟨A60, v60_0, v60_1, v60_2, v60_3, v60_4, v60_5, v60_6, v60_7, v60_8, v60_9, v60_10, v60_11, v60_12, v60_13, v60_14, v60_15, v60_16, v60_17, v60_18, v60_19, v60_20, v60_21⟩ := lst_V 2 hL rfl he
            refine e_get 64 (v := (.int (nI ((dL s 4).length / 4)))) dX15_rule_61 rfl fl_X15_272_10 v60_0 rfl ?_
            refine e_bipush 66 (v := (nI 12)) dX15_rule_64 rfl (by decide) ?_
            refine e_icmp_ne 71 69 dX15_rule_66 rfl rfl (fun c66 => ?_) (fun c66 => ?_)
            · have k66 := j_ne_t (a := ((dL s 4).length / 4)) (b := 12) (by omega) (by omega) c66
              have hL : stars [lst rdve DL, pt m (.inr (13, moF F (upN (mW (tp, an, D, (fr, wv, hs), (v, RQ, RS, SC, er, mb), ck) th AN.length lt lf) 0 0) (decide (wv 5 ≠ 0)))), pt (F 1) (.inl (6, 6, .inr (.inr (.inr (.inr (adD DL)))))), iar (F 3) 300 AN, iar (F 5) 260 PD, rst (F 6) er (v 20) (mb 1) (mb 2), rrw (F 12) 16 3 (RQ.map rqE), rrw (F 13) 32 5 (RS.map rsE), rrw (F 14) 8 4 (SC.map scE), iar (F 21) 260 fr, iar (F 31) 64 (hs.map (·.1)), iar (F 32) 64 (hs.map (·.2)), iar (F 34) 400 tp, iar (F 36) 300 an] h := stars_ixn hL 14 rfl [2, 0, 1, 3, 4, 5, 6, 7, 8, 9, 10, 11, 12, 13] (by decide) rfl
              have hL : stars [rdv d s, lst rdve (DL.eraseIdx i), pt m (.inr (13, moF F (upN (mW (tp, an, D, (fr, wv, hs), (v, RQ, RS, SC, er, mb), ck) th AN.length lt lf) 0 0) (decide (wv 5 ≠ 0)))), pt (F 1) (.inl (6, 6, .inr (.inr (.inr (.inr (adD DL)))))), iar (F 3) 300 AN, iar (F 5) 260 PD, rst (F 6) er (v 20) (mb 1) (mb 2), rrw (F 12) 16 3 (RQ.map rqE), rrw (F 13) 32 5 (RS.map rsE), rrw (F 14) 8 4 (SC.map scE), iar (F 21) 260 fr, iar (F 31) 64 (hs.map (·.1)), iar (F 32) 64 (hs.map (·.2)), iar (F 34) 400 tp, iar (F 36) 300 an] h := lst_o i he hL
              obtain ⟨A, hL⟩ := rdv_or hL
              have hL : stars [pt d (.inr (10, rdF A s)), iar (A 29) 48 (dL s 4), rRr A s, lst rdve (DL.eraseIdx i), pt m (.inr (13, moF F (upN (mW (tp, an, D, (fr, wv, hs), (v, RQ, RS, SC, er, mb), ck) th AN.length lt lf) 0 0) (decide (wv 5 ≠ 0)))), pt (F 1) (.inl (6, 6, .inr (.inr (.inr (.inr (adD DL)))))), iar (F 3) 300 AN, iar (F 5) 260 PD, rst (F 6) er (v 20) (mb 1) (mb 2), rrw (F 12) 16 3 (RQ.map rqE), rrw (F 13) 32 5 (RS.map rsE), rrw (F 14) 8 4 (SC.map scE), iar (F 21) 260 fr, iar (F 31) 64 (hs.map (·.1)), iar (F 32) 64 (hs.map (·.2)), iar (F 34) 400 tp, iar (F 36) 300 an] h := hL
              refine e_aload_n 72 dX15_rule_71 rfl rfl ?_
              refine e_get 75 (v := (.ref (F 1))) dX15_rule_72 rfl fl_X15_9_13 (stars_at _ 4 hL rfl) rfl ?_
              refine e_iload_n 76 dX15_rule_75 rfl rfl ?_
              refine p_aaldD 77 hL 5 (v := d) (k := i) rfl (adD_at he) dX15_rule_76 rfl (by omega) ?_
              refine e_astore 79 (ls' := [some (.ref m), some (.int (nI i)), some (.int (nI k)), some (.int (nI a)), some (.int (nI b)), some (.int (nI c)), some (.ref d)]) dX15_rule_77 rfl (by decide) rfl ?_
              refine e_aload 81 dX15_rule_79 rfl rfl ?_
              refine e_get 84 (v := (.ref (A 29))) dX15_rule_81 rfl fl_X15_275_10 (stars_at _ 0 hL rfl) rfl ?_
              refine e_iconst 85 (v := (nI 4)) dX15_rule_84 rfl (by decide) ?_
              refine e_aload 87 dX15_rule_85 rfl rfl ?_
              refine e_get 90 (v := (.int (nI ((dL s 4).length / 4)))) dX15_rule_87 rfl fl_X15_272_10 (stars_at _ 0 hL rfl) rfl ?_
              refine e_imul 91 (v := (nI (dL s 4).length)) dX15_rule_90 rfl ((pk_mul _ _).trans (congrArg nI (by omega))) ?_
              refine e_iload_n 92 dX15_rule_91 rfl rfl ?_
              refine p_iastR 93 hL 1 (r := (dL s 4)) (r' := ((dL s 4) ++ [k])) (k := (dL s 4).length) (v := k) (L' := [pt d (.inr (10, rdF A s)), iar (A 29) 48 ((dL s 4) ++ [k]), rRr A s, lst rdve (DL.eraseIdx i), pt m (.inr (13, moF F (upN (mW (tp, an, D, (fr, wv, hs), (v, RQ, RS, SC, er, mb), ck) th AN.length lt lf) 0 0) (decide (wv 5 ≠ 0)))), pt (F 1) (.inl (6, 6, .inr (.inr (.inr (.inr (adD DL)))))), iar (F 3) 300 AN, iar (F 5) 260 PD, rst (F 6) er (v 20) (mb 1) (mb 2), rrw (F 12) 16 3 (RQ.map rqE), rrw (F 13) 32 5 (RS.map rsE), rrw (F 14) 8 4 (SC.map scE), iar (F 21) 260 fr, iar (F 31) 64 (hs.map (·.1)), iar (F 32) 64 (hs.map (·.2)), iar (F 34) 400 tp, iar (F 36) 300 an]) rfl dX15_rule_92 rfl (by omega) (by omega) (iw_apl (rfl) (rfl) (by omega)) rfl (fun h hL => ?_)
              refine e_aload 95 dX15_rule_93 rfl rfl ?_
              refine e_get 98 (v := (.ref (A 29))) dX15_rule_95 rfl fl_X15_275_10 (stars_at _ 0 hL rfl) rfl ?_
              refine e_iconst 99 (v := (nI 4)) dX15_rule_98 rfl (by decide) ?_
              refine e_aload 101 dX15_rule_99 rfl rfl ?_
              refine e_get 104 (v := (.int (nI ((dL s 4).length / 4)))) dX15_rule_101 rfl fl_X15_272_10 (stars_at _ 0 hL rfl) rfl ?_
              refine e_imul 105 (v := (nI (dL s 4).length)) dX15_rule_104 rfl ((pk_mul _ _).trans (congrArg nI (by omega))) ?_
              refine e_iconst 106 (v := (nI 1)) dX15_rule_105 rfl (by decide) ?_
              refine e_iadd 107 (v := (nI ((dL s 4).length + 1))) dX15_rule_106 rfl (nI_add ((dL s 4).length) 1) ?_
              refine e_iload_n 108 dX15_rule_107 rfl rfl ?_
              refine p_iastR 109 hL 1 (r := ((dL s 4) ++ [k])) (r' := ((dL s 4) ++ [k, a])) (k := ((dL s 4).length + 1)) (v := a) (L' := [pt d (.inr (10, rdF A s)), iar (A 29) 48 ((dL s 4) ++ [k, a]), rRr A s, lst rdve (DL.eraseIdx i), pt m (.inr (13, moF F (upN (mW (tp, an, D, (fr, wv, hs), (v, RQ, RS, SC, er, mb), ck) th AN.length lt lf) 0 0) (decide (wv 5 ≠ 0)))), pt (F 1) (.inl (6, 6, .inr (.inr (.inr (.inr (adD DL)))))), iar (F 3) 300 AN, iar (F 5) 260 PD, rst (F 6) er (v 20) (mb 1) (mb 2), rrw (F 12) 16 3 (RQ.map rqE), rrw (F 13) 32 5 (RS.map rsE), rrw (F 14) 8 4 (SC.map scE), iar (F 21) 260 fr, iar (F 31) 64 (hs.map (·.1)), iar (F 32) 64 (hs.map (·.2)), iar (F 34) 400 tp, iar (F 36) 300 an]) rfl dX15_rule_108 rfl (by omega) (by omega) (iw_apl (by rw [List.length_append]; rfl) (by rw [List.append_assoc]; rfl) (by rw [List.length_append]; show (dL s 4).length + 1 < 48; omega)) rfl (fun h hL => ?_)
              refine e_aload 111 dX15_rule_109 rfl rfl ?_
              refine e_get 114 (v := (.ref (A 29))) dX15_rule_111 rfl fl_X15_275_10 (stars_at _ 0 hL rfl) rfl ?_
              refine e_iconst 115 (v := (nI 4)) dX15_rule_114 rfl (by decide) ?_
              refine e_aload 117 dX15_rule_115 rfl rfl ?_
              refine e_get 120 (v := (.int (nI ((dL s 4).length / 4)))) dX15_rule_117 rfl fl_X15_272_10 (stars_at _ 0 hL rfl) rfl ?_
              refine e_imul 121 (v := (nI (dL s 4).length)) dX15_rule_120 rfl ((pk_mul _ _).trans (congrArg nI (by omega))) ?_
              refine e_iconst 122 (v := (nI 2)) dX15_rule_121 rfl (by decide) ?_
              refine e_iadd 123 (v := (nI ((dL s 4).length + 2))) dX15_rule_122 rfl (nI_add ((dL s 4).length) 2) ?_
              refine e_iload 125 dX15_rule_123 rfl rfl ?_
              refine p_iastR 126 hL 1 (r := ((dL s 4) ++ [k, a])) (r' := ((dL s 4) ++ [k, a, b])) (k := ((dL s 4).length + 2)) (v := b) (L' := [pt d (.inr (10, rdF A s)), iar (A 29) 48 ((dL s 4) ++ [k, a, b]), rRr A s, lst rdve (DL.eraseIdx i), pt m (.inr (13, moF F (upN (mW (tp, an, D, (fr, wv, hs), (v, RQ, RS, SC, er, mb), ck) th AN.length lt lf) 0 0) (decide (wv 5 ≠ 0)))), pt (F 1) (.inl (6, 6, .inr (.inr (.inr (.inr (adD DL)))))), iar (F 3) 300 AN, iar (F 5) 260 PD, rst (F 6) er (v 20) (mb 1) (mb 2), rrw (F 12) 16 3 (RQ.map rqE), rrw (F 13) 32 5 (RS.map rsE), rrw (F 14) 8 4 (SC.map scE), iar (F 21) 260 fr, iar (F 31) 64 (hs.map (·.1)), iar (F 32) 64 (hs.map (·.2)), iar (F 34) 400 tp, iar (F 36) 300 an]) rfl dX15_rule_125 rfl (by omega) (by omega) (iw_apl (by rw [List.length_append]; rfl) (by rw [List.append_assoc]; rfl) (by rw [List.length_append]; show (dL s 4).length + 2 < 48; omega)) rfl (fun h hL => ?_)
              refine e_aload 128 dX15_rule_126 rfl rfl ?_
              refine e_get 131 (v := (.ref (A 29))) dX15_rule_128 rfl fl_X15_275_10 (stars_at _ 0 hL rfl) rfl ?_
              refine e_iconst 132 (v := (nI 4)) dX15_rule_131 rfl (by decide) ?_
              refine e_aload 134 dX15_rule_132 rfl rfl ?_
              refine e_get 137 (v := (.int (nI ((dL s 4).length / 4)))) dX15_rule_134 rfl fl_X15_272_10 (stars_at _ 0 hL rfl) rfl ?_
              refine e_imul 138 (v := (nI (dL s 4).length)) dX15_rule_137 rfl ((pk_mul _ _).trans (congrArg nI (by omega))) ?_
              refine e_iconst 139 (v := (nI 3)) dX15_rule_138 rfl (by decide) ?_
              refine e_iadd 140 (v := (nI ((dL s 4).length + 3))) dX15_rule_139 rfl (nI_add ((dL s 4).length) 3) ?_
              refine e_iload 142 dX15_rule_140 rfl rfl ?_
              refine p_iastR 143 hL 1 (r := ((dL s 4) ++ [k, a, b])) (r' := ((dL s 4) ++ [k, a, b, c])) (k := ((dL s 4).length + 3)) (v := c) (L' := [pt d (.inr (10, rdF A s)), iar (A 29) 48 ((dL s 4) ++ [k, a, b, c]), rRr A s, lst rdve (DL.eraseIdx i), pt m (.inr (13, moF F (upN (mW (tp, an, D, (fr, wv, hs), (v, RQ, RS, SC, er, mb), ck) th AN.length lt lf) 0 0) (decide (wv 5 ≠ 0)))), pt (F 1) (.inl (6, 6, .inr (.inr (.inr (.inr (adD DL)))))), iar (F 3) 300 AN, iar (F 5) 260 PD, rst (F 6) er (v 20) (mb 1) (mb 2), rrw (F 12) 16 3 (RQ.map rqE), rrw (F 13) 32 5 (RS.map rsE), rrw (F 14) 8 4 (SC.map scE), iar (F 21) 260 fr, iar (F 31) 64 (hs.map (·.1)), iar (F 32) 64 (hs.map (·.2)), iar (F 34) 400 tp, iar (F 36) 300 an]) rfl dX15_rule_142 rfl (by omega) (by omega) (iw_apl (by rw [List.length_append]; rfl) (by rw [List.append_assoc]; rfl) (by rw [List.length_append]; show (dL s 4).length + 3 < 48; omega)) rfl (fun h hL => ?_)
              refine e_aload 145 dX15_rule_143 rfl rfl ?_
              refine e_dup 146 dX15_rule_145 rfl rfl ?_
              refine e_get 149 (v := (.int (nI ((dL s 4).length / 4)))) dX15_rule_146 rfl fl_X15_272_10 (stars_at _ 0 hL rfl) rfl ?_
              refine e_iconst 150 (v := (nI 1)) dX15_rule_149 rfl (by decide) ?_
              refine e_iadd 151 (v := (nI (((dL s 4).length / 4) + 1))) dX15_rule_150 rfl (nI_add ((dL s 4).length / 4) 1) ?_
              refine p_put 154 hL 0 (fs' := (rdF A s).set 28 (.int (nI (((dL s 4).length / 4) + 1)))) (L' := [pt d (.inr (10, (rdF A s).set 28 (.int (nI (((dL s 4).length / 4) + 1))))), iar (A 29) 48 ((dL s 4) ++ [k, a, b, c]), rRr A s, lst rdve (DL.eraseIdx i), pt m (.inr (13, moF F (upN (mW (tp, an, D, (fr, wv, hs), (v, RQ, RS, SC, er, mb), ck) th AN.length lt lf) 0 0) (decide (wv 5 ≠ 0)))), pt (F 1) (.inl (6, 6, .inr (.inr (.inr (.inr (adD DL)))))), iar (F 3) 300 AN, iar (F 5) 260 PD, rst (F 6) er (v 20) (mb 1) (mb 2), rrw (F 12) 16 3 (RQ.map rqE), rrw (F 13) 32 5 (RS.map rsE), rrw (F 14) 8 4 (SC.map scE), iar (F 21) 260 fr, iar (F 31) 64 (hs.map (·.1)), iar (F 32) 64 (hs.map (·.2)), iar (F 34) 400 tp, iar (F 36) 300 an]) rfl rfl dX15_rule_151 rfl fp_X15_272_10 (Or.inl rfl) (Nat.le_of_ble_eq_true rfl) rfl rfl rfl (fun h hL => ?_)
              have hL : stars [rdv d (ruS s k a b c), lst rdve (DL.eraseIdx i), pt m (.inr (13, moF F (upN (mW (tp, an, D, (fr, wv, hs), (v, RQ, RS, SC, er, mb), ck) th AN.length lt lf) 0 0) (decide (wv 5 ≠ 0)))), pt (F 1) (.inl (6, 6, .inr (.inr (.inr (.inr (adD DL)))))), iar (F 3) 300 AN, iar (F 5) 260 PD, rst (F 6) er (v 20) (mb 1) (mb 2), rrw (F 12) 16 3 (RQ.map rqE), rrw (F 13) 32 5 (RS.map rsE), rrw (F 14) 8 4 (SC.map scE), iar (F 21) 260 fr, iar (F 31) 64 (hs.map (·.1)), iar (F 32) 64 (hs.map (·.2)), iar (F 34) 400 tp, iar (F 36) 300 an] h := rdv_cr (s := s) (A := A) (fs' := (rdF A s).set 28 (.int (nI (((dL s 4).length / 4) + 1)))) (r := ((dL s 4) ++ [k, a, b, c])) (by rw [show (dL s 4).length / 4 + 1 = ((dL s 4) ++ [k, a, b, c]).length / 4 by rw [List.length_append]; show _ = ((dL s 4).length + 4) / 4; omega]; rfl) hL
              have hL : stars [lst rdve (DL.set i (d, (ruS s k a b c))), pt m (.inr (13, moF F (upN (mW (tp, an, D, (fr, wv, hs), (v, RQ, RS, SC, er, mb), ck) th AN.length lt lf) 0 0) (decide (wv 5 ≠ 0)))), pt (F 1) (.inl (6, 6, .inr (.inr (.inr (.inr (adD DL)))))), iar (F 3) 300 AN, iar (F 5) 260 PD, rst (F 6) er (v 20) (mb 1) (mb 2), rrw (F 12) 16 3 (RQ.map rqE), rrw (F 13) 32 5 (RS.map rsE), rrw (F 14) 8 4 (SC.map scE), iar (F 21) 260 fr, iar (F 31) 64 (hs.map (·.1)), iar (F 32) 64 (hs.map (·.2)), iar (F 34) 400 tp, iar (F 36) 300 an] h := lst_c (f := rdve) (x := (d, (ruS s k a b c))) i (by omega) hL
              rw [adD_set he (ruS s k a b c)] at hL
              have hL : stars [lst rdve (DL.set i (d, (ruS s k a b c))), pt m (.inr (13, moF F (upN (mW (tp, an, D, (fr, wv, hs), (v, RQ, RS, SC, er, mb), ck) th AN.length lt lf) 0 0) (decide (wv 5 ≠ 0)))), pt (F 1) (.inl (6, 6, .inr (.inr (.inr (.inr (adD (DL.set i (d, (ruS s k a b c))))))))), iar (F 3) 300 AN, iar (F 5) 260 PD, rst (F 6) er (v 20) (mb 1) (mb 2), rrw (F 12) 16 3 (RQ.map rqE), rrw (F 13) 32 5 (RS.map rsE), rrw (F 14) 8 4 (SC.map scE), iar (F 21) 260 fr, iar (F 31) 64 (hs.map (·.1)), iar (F 32) 64 (hs.map (·.2)), iar (F 34) 400 tp, iar (F 36) 300 an] h := hL
              have eo : moF F (upN (mW (tp, an, D, (fr, wv, hs), (v, RQ, RS, SC, er, mb), ck) th AN.length lt lf) 0 0) (decide (wv 5 ≠ 0)) = moF F (upN (upN (mW (tp, an, D, (fr, wv, hs), (v, RQ, RS, SC, er, mb), ck) th AN.length lt lf) 0 0) 2 (D.set i (ruS s k a b c)).length) (decide (wv 5 ≠ 0)) := by rw [List.length_set]; rfl
              rw [eo] at hL
              have hL : stars [lst rdve (DL.set i (d, (ruS s k a b c))), pt m (.inr (13, moF F (upN (upN (mW (tp, an, D, (fr, wv, hs), (v, RQ, RS, SC, er, mb), ck) th AN.length lt lf) 0 0) 2 (D.set i (ruS s k a b c)).length) (decide (wv 5 ≠ 0)))), pt (F 1) (.inl (6, 6, .inr (.inr (.inr (.inr (adD (DL.set i (d, (ruS s k a b c))))))))), iar (F 3) 300 AN, iar (F 5) 260 PD, rst (F 6) er (v 20) (mb 1) (mb 2), rrw (F 12) 16 3 (RQ.map rqE), rrw (F 13) 32 5 (RS.map rsE), rrw (F 14) 8 4 (SC.map scE), iar (F 21) 260 fr, iar (F 31) 64 (hs.map (·.1)), iar (F 32) 64 (hs.map (·.2)), iar (F 34) 400 tp, iar (F 36) 300 an] h := hL
              refine e_iconst 155 (v := (nI 1)) dX15_rule_154 rfl (by decide) ?_
              exact e_zret dX15_rule_155 rfl (Or.inr (by decide)) (by omega) (by omega) (⟨_, ⟨by rw [show ruC (tp, an, D, (fr, wv, hs), (v, RQ, RS, SC, er, mb), ck) (nI i) (nI k) (nI a) (nI b) (nI c) = true by show (dIn D.length (nI i) && (inI (nI k) (nI 0) (nI 6) && (inI (nI a) (nI 0) (nI 65535) && (inI (nI b) (nI 0) (nI 65535) && (inI (nI c) (nI 0) (nI 65535) && decide ((dL (gD (tp, an, D, (fr, wv, hs), (v, RQ, RS, SC, er, mb), ck) (nI i).toNatClampNeg) 4).length < 48)))))) = _; rw [k10, k20, k30, k41, k52, ic, hg, decide_eq_true (show (dL s 4).length < 48 by omega)]; rfl]; rfl, by rw [ruG, if_pos (show ruC (tp, an, D, (fr, wv, hs), (v, RQ, RS, SC, er, mb), ck) (nI i) (nI k) (nI a) (nI b) (nI c) = true by show (dIn D.length (nI i) && (inI (nI k) (nI 0) (nI 6) && (inI (nI a) (nI 0) (nI 65535) && (inI (nI b) (nI 0) (nI 65535) && (inI (nI c) (nI 0) (nI 65535) && decide ((dL (gD (tp, an, D, (fr, wv, hs), (v, RQ, RS, SC, er, mb), ck) (nI i).toNatClampNeg) 4).length < 48)))))) = _; rw [k10, k20, k30, k41, k52, ic, hg, decide_eq_true (show (dL s 4).length < 48 by omega)]; rfl), ic, kc, ac, bc, cc, hg]⟩, rfo_c (g := (tp, an, D.set i (ruS s k a b c), (fr, wv, hs), (v, RQ, RS, SC, er, mb), ck)) (th := 0) (F := F) (lt := lt) (lf := lf) (AN := AN) (PD := PD) (DL := (DL.set i (d, (ruS s k a b c)))) (X := []) (rfC_set (s1 := (ruS s k a b c)) hc he hi) (stars_ixn hL 14 rfl [1, 2, 0, 3, 4, 5, 6, 7, 8, 9, 10, 11, 12, 13] (by decide) rfl)⟩)
            · have k66 := j_ne_f (a := ((dL s 4).length / 4)) (b := 12) (by omega) (by omega) c66
              refine e_iconst 70 (v := (nI 0)) dX15_rule_69 rfl (by decide) ?_
              exact e_zret dX15_rule_70 rfl (Or.inl (by decide)) (by omega) (by omega) (⟨_, ⟨by rw [show ruC (tp, an, D, (fr, wv, hs), (v, RQ, RS, SC, er, mb), ck) (nI i) (nI k) (nI a) (nI b) (nI c) = false by show (dIn D.length (nI i) && (inI (nI k) (nI 0) (nI 6) && (inI (nI a) (nI 0) (nI 65535) && (inI (nI b) (nI 0) (nI 65535) && (inI (nI c) (nI 0) (nI 65535) && decide ((dL (gD (tp, an, D, (fr, wv, hs), (v, RQ, RS, SC, er, mb), ck) (nI i).toNatClampNeg) 4).length < 48)))))) = _; rw [k10, k20, k30, k41, k52, ic, hg, decide_eq_false (show ¬ (dL s 4).length < 48 by omega)]; rfl]; rfl, by rw [ruG, if_neg (show ¬ ruC (tp, an, D, (fr, wv, hs), (v, RQ, RS, SC, er, mb), ck) (nI i) (nI k) (nI a) (nI b) (nI c) = true by rw [show ruC (tp, an, D, (fr, wv, hs), (v, RQ, RS, SC, er, mb), ck) (nI i) (nI k) (nI a) (nI b) (nI c) = false by show (dIn D.length (nI i) && (inI (nI k) (nI 0) (nI 6) && (inI (nI a) (nI 0) (nI 65535) && (inI (nI b) (nI 0) (nI 65535) && (inI (nI c) (nI 0) (nI 65535) && decide ((dL (gD (tp, an, D, (fr, wv, hs), (v, RQ, RS, SC, er, mb), ck) (nI i).toNatClampNeg) 4).length < 48)))))) = _; rw [k10, k20, k30, k41, k52, ic, hg, decide_eq_false (show ¬ (dL s 4).length < 48 by omega)]; rfl]; decide)]⟩, rfo_c (g := (tp, an, D, (fr, wv, hs), (v, RQ, RS, SC, er, mb), ck)) (th := 0) (F := F) (lt := lt) (lf := lf) (AN := AN) (PD := PD) (DL := DL) (X := []) hc (stars_ixn hL 14 rfl [0, 1, 2, 3, 4, 5, 6, 7, 8, 9, 10, 11, 12, 13] (by decide) rfl)⟩)
set_option maxRecDepth 20000 in
set_option maxHeartbeats 2000000 in
theorem k_X15_limit {m th : Nat} {tp an fr : List Nat} {D : List DS} {wv : Nat → Nat} {hs : List (Nat × Nat)} {v : Nat → Nat} {RQ : List RQE} {RS : List RSE} {SC : List SCE} {er : List Nat} {mb : Nat → Bool} {ck : Nat} (hE : ∀ s ∈ D, okD s ∧ okE s) {x1 x2 x3 x4 x5 : Int32} : CA mX15_limit [.ref m, .int x1, .int x2, .int x3, .int x4, .int x5] [rfo m (tp, an, D, (fr, wv, hs), (v, RQ, RS, SC, er, mb), ck) th] (fun r K => r = some (.int (bI (lmC (tp, an, D, (fr, wv, hs), (v, RQ, RS, SC, er, mb), ck) x1 x2 x3 x4 x5))) ∧ K = [rfo m (lmG (tp, an, D, (fr, wv, hs), (v, RQ, RS, SC, er, mb), ck) x1 x2 x3 x4 x5) 0]) 2 60 0 0 := by
  refine CA.mk 1 (ls := [some (.ref m), some (.int x1), some (.int x2), some (.int x3), some (.int x4), some (.int x5), none]) rfl rfl (Nat.le_of_ble_eq_true rfl) rfl (fun h hL => ?_)
  obtain ⟨F, lt, lf, AN, PD, DL, hc, hL⟩ := rfo_o hL
  have hL : stars [pt m (.inr (13, moF F (mW (tp, an, D, (fr, wv, hs), (v, RQ, RS, SC, er, mb), ck) th AN.length lt lf) (decide (wv 5 ≠ 0)))), pt (F 1) (.inl (6, 6, .inr (.inr (.inr (.inr (adD DL)))))), lst rdve DL, iar (F 3) 300 AN, iar (F 5) 260 PD, rst (F 6) er (v 20) (mb 1) (mb 2), rrw (F 12) 16 3 (RQ.map rqE), rrw (F 13) 32 5 (RS.map rsE), rrw (F 14) 8 4 (SC.map scE), iar (F 21) 260 fr, iar (F 31) 64 (hs.map (·.1)), iar (F 32) 64 (hs.map (·.2)), iar (F 34) 400 tp, iar (F 36) 300 an] h := hL
  have ltp := (iar_V _ 12 hL rfl).le
  have lan := (iar_V _ 13 hL rfl).le
  have lfr := (iar_V _ 9 hL rfl).le
  have h6 : D.length ≤ 6 := hc.2.1
  have hl9 := rfC_len hc
  refine e_aload_n 1 dX15_limit_0 rfl rfl ?_
  refine e_iconst 2 (v := (nI 0)) dX15_limit_1 rfl (by decide) ?_
  refine p_put 5 hL 0 (fs' := moF F (upN (mW (tp, an, D, (fr, wv, hs), (v, RQ, RS, SC, er, mb), ck) th AN.length lt lf) 0 0) (decide (wv 5 ≠ 0))) (L' := [pt m (.inr (13, moF F (upN (mW (tp, an, D, (fr, wv, hs), (v, RQ, RS, SC, er, mb), ck) th AN.length lt lf) 0 0) (decide (wv 5 ≠ 0)))), pt (F 1) (.inl (6, 6, .inr (.inr (.inr (.inr (adD DL)))))), lst rdve DL, iar (F 3) 300 AN, iar (F 5) 260 PD, rst (F 6) er (v 20) (mb 1) (mb 2), rrw (F 12) 16 3 (RQ.map rqE), rrw (F 13) 32 5 (RS.map rsE), rrw (F 14) 8 4 (SC.map scE), iar (F 21) 260 fr, iar (F 31) 64 (hs.map (·.1)), iar (F 32) 64 (hs.map (·.2)), iar (F 34) 400 tp, iar (F 36) 300 an]) rfl rfl dX15_limit_2 rfl fp_X15_73_13 (Or.inl rfl) (Nat.le_of_ble_eq_true rfl) rfl rfl rfl (fun h hL => ?_)
  refine e_aload_n 6 dX15_limit_5 rfl rfl ?_
  refine e_iload_n 7 dX15_limit_6 rfl rfl ?_
  refine u_callV 10 dX15_limit_7 rfl cv_X15_435 (stars_at _ 0 hL rfl) (u_isDev (n := D.length) (stars_at _ 0 hL rfl) rfl (by omega)) rfl rfl (Nat.le_of_ble_eq_true rfl) (by decide) ⟨by omega, by omega⟩ ?_
  refine e_if_eq 66 13 dX15_limit_10 rfl rfl (fun c10 => ?_) (fun c10 => ?_)
  · have k10 := jb_eq_t c10
    refine e_iconst 67 (v := (nI 0)) dX15_limit_66 rfl (by decide) ?_
    exact e_zret dX15_limit_67 rfl (Or.inl (by decide)) (by omega) (by omega) (⟨_, ⟨by rw [show lmC (tp, an, D, (fr, wv, hs), (v, RQ, RS, SC, er, mb), ck) x1 x2 x3 x4 x5 = false by show (dIn D.length _ && _) = _; rw [k10]; rfl]; rfl, by rw [lmG, if_neg (show ¬ lmC (tp, an, D, (fr, wv, hs), (v, RQ, RS, SC, er, mb), ck) x1 x2 x3 x4 x5 = true by rw [show lmC (tp, an, D, (fr, wv, hs), (v, RQ, RS, SC, er, mb), ck) x1 x2 x3 x4 x5 = false by show (dIn D.length _ && _) = _; rw [k10]; rfl]; decide)]⟩, rfo_c (g := (tp, an, D, (fr, wv, hs), (v, RQ, RS, SC, er, mb), ck)) (th := 0) (F := F) (lt := lt) (lf := lf) (AN := AN) (PD := PD) (DL := DL) (X := []) hc (stars_ixn hL 14 rfl [0, 1, 2, 3, 4, 5, 6, 7, 8, 9, 10, 11, 12, 13] (by decide) rfl)⟩)
  · have k10 := jb_eq_f c10
    obtain ⟨i, rfl, hi⟩ := dIn_nat (by omega) k10
    have ic : (nI i).toNatClampNeg = i := nI_clamp (by omega)
    obtain ⟨⟨d, s⟩, he⟩ : ∃ e, DL[i]? = some e := ⟨_, List.getElem?_eq_getElem (show i < DL.length by omega)⟩
    have hsD : D[i]? = some s := rfC_at hc he hi
    have hg : gD (tp, an, D, (fr, wv, hs), (v, RQ, RS, SC, er, mb), ck) i = s := gD_of hsD
    obtain ⟨hok, hoe⟩ := hE s (List.mem_of_getElem? hsD)
    have l8 : s.1 8 ≤ 8 := hok.1
    refine e_iload_n 14 dX15_limit_13 rfl rfl ?_
    refine e_iconst 15 (v := (nI 0)) dX15_limit_14 rfl (by decide) ?_
    refine e_ldc 17 (v := (nI 65535)) dX15_limit_15 rfl cn_X15_76 ?_
    refine u_callS 20 dX15_limit_17 rfl cs_X15_81 u_inI rfl rfl (Nat.le_of_ble_eq_true rfl) (by decide) ⟨by omega, by omega⟩ ?_
    refine e_if_eq 66 23 dX15_limit_20 rfl rfl (fun c20 => ?_) (fun c20 => ?_)
    · have k20 := jb_eq_t c20
      refine e_iconst 67 (v := (nI 0)) dX15_limit_66 rfl (by decide) ?_
      exact e_zret dX15_limit_67 rfl (Or.inl (by decide)) (by omega) (by omega) (⟨_, ⟨by rw [show lmC (tp, an, D, (fr, wv, hs), (v, RQ, RS, SC, er, mb), ck) (nI i) x2 x3 x4 x5 = false by show (dIn D.length _ && (inI _ _ _ && _)) = _; rw [k10, k20]; rfl]; rfl, by rw [lmG, if_neg (show ¬ lmC (tp, an, D, (fr, wv, hs), (v, RQ, RS, SC, er, mb), ck) (nI i) x2 x3 x4 x5 = true by rw [show lmC (tp, an, D, (fr, wv, hs), (v, RQ, RS, SC, er, mb), ck) (nI i) x2 x3 x4 x5 = false by show (dIn D.length _ && (inI _ _ _ && _)) = _; rw [k10, k20]; rfl]; decide)]⟩, rfo_c (g := (tp, an, D, (fr, wv, hs), (v, RQ, RS, SC, er, mb), ck)) (th := 0) (F := F) (lt := lt) (lf := lf) (AN := AN) (PD := PD) (DL := DL) (X := []) hc (stars_ixn hL 14 rfl [0, 1, 2, 3, 4, 5, 6, 7, 8, 9, 10, 11, 12, 13] (by decide) rfl)⟩)
    · have k20 := jb_eq_f c20
      obtain ⟨a, rfl, aa, ab⟩ := inI_nat (by first | decide | omega) (by first | decide | omega) k20
      have ac : (nI a).toNatClampNeg = a := nI_clamp (by omega)
      refine e_iload_n 24 dX15_limit_23 rfl rfl ?_
      refine e_iconst 25 (v := (nI 1)) dX15_limit_24 rfl (by decide) ?_
      refine e_ldcw 28 (v := (nI 65536)) dX15_limit_25 rfl cn_X15_281 ?_
      refine u_callS 31 dX15_limit_28 rfl cs_X15_81 u_inI rfl rfl (Nat.le_of_ble_eq_true rfl) (by decide) ⟨by omega, by omega⟩ ?_
      refine e_if_eq 66 34 dX15_limit_31 rfl rfl (fun c31 => ?_) (fun c31 => ?_)
      · have k31 := jb_eq_t c31
        refine e_iconst 67 (v := (nI 0)) dX15_limit_66 rfl (by decide) ?_
        exact e_zret dX15_limit_67 rfl (Or.inl (by decide)) (by omega) (by omega) (⟨_, ⟨by rw [show lmC (tp, an, D, (fr, wv, hs), (v, RQ, RS, SC, er, mb), ck) (nI i) (nI a) x3 x4 x5 = false by show (dIn D.length _ && (inI _ _ _ && (inI _ _ _ && _))) = _; rw [k10, k20, k31]; rfl]; rfl, by rw [lmG, if_neg (show ¬ lmC (tp, an, D, (fr, wv, hs), (v, RQ, RS, SC, er, mb), ck) (nI i) (nI a) x3 x4 x5 = true by rw [show lmC (tp, an, D, (fr, wv, hs), (v, RQ, RS, SC, er, mb), ck) (nI i) (nI a) x3 x4 x5 = false by show (dIn D.length _ && (inI _ _ _ && (inI _ _ _ && _))) = _; rw [k10, k20, k31]; rfl]; decide)]⟩, rfo_c (g := (tp, an, D, (fr, wv, hs), (v, RQ, RS, SC, er, mb), ck)) (th := 0) (F := F) (lt := lt) (lf := lf) (AN := AN) (PD := PD) (DL := DL) (X := []) hc (stars_ixn hL 14 rfl [0, 1, 2, 3, 4, 5, 6, 7, 8, 9, 10, 11, 12, 13] (by decide) rfl)⟩)
      · have k31 := jb_eq_f c31
        obtain ⟨n, rfl, na, nb⟩ := inI_nat (by first | decide | omega) (by first | decide | omega) k31
        have nc : (nI n).toNatClampNeg = n := nI_clamp (by omega)
        refine e_iload_n 35 dX15_limit_34 rfl rfl ?_
        refine e_iload_n 36 dX15_limit_35 rfl rfl ?_
        refine e_iadd 37 (v := (nI (a + n))) dX15_limit_36 rfl (nI_add a n) ?_
        refine e_ldcw 40 (v := (nI 65536)) dX15_limit_37 rfl cn_X15_281 ?_
        refine e_icmp_gt 66 43 dX15_limit_40 rfl rfl (fun c40 => ?_) (fun c40 => ?_)
        · have k40 := j_gt_t (a := (a + n)) (b := 65536) (by omega) (by omega) c40
          refine e_iconst 67 (v := (nI 0)) dX15_limit_66 rfl (by decide) ?_
          exact e_zret dX15_limit_67 rfl (Or.inl (by decide)) (by omega) (by omega) (⟨_, ⟨by rw [show lmC (tp, an, D, (fr, wv, hs), (v, RQ, RS, SC, er, mb), ck) (nI i) (nI a) (nI n) x4 x5 = false by show (dIn D.length (nI i) && (inI (nI a) (nI 0) (nI 65535) && (inI (nI n) (nI 1) (nI 65536) && (decide ((nI a).toNatClampNeg + (nI n).toNatClampNeg ≤ 65536) && (inI x4 (nI 0) (nI 65535) && (inI x5 x4 (nI 65535) && decide ((gD (tp, an, D, (fr, wv, hs), (v, RQ, RS, SC, er, mb), ck) (nI i).toNatClampNeg).1 8 < 8))))))) = _; rw [k10, k20, k31, ac, nc, decide_eq_false (show ¬ a + n ≤ 65536 by omega)]; rfl]; rfl, by rw [lmG, if_neg (show ¬ lmC (tp, an, D, (fr, wv, hs), (v, RQ, RS, SC, er, mb), ck) (nI i) (nI a) (nI n) x4 x5 = true by rw [show lmC (tp, an, D, (fr, wv, hs), (v, RQ, RS, SC, er, mb), ck) (nI i) (nI a) (nI n) x4 x5 = false by show (dIn D.length (nI i) && (inI (nI a) (nI 0) (nI 65535) && (inI (nI n) (nI 1) (nI 65536) && (decide ((nI a).toNatClampNeg + (nI n).toNatClampNeg ≤ 65536) && (inI x4 (nI 0) (nI 65535) && (inI x5 x4 (nI 65535) && decide ((gD (tp, an, D, (fr, wv, hs), (v, RQ, RS, SC, er, mb), ck) (nI i).toNatClampNeg).1 8 < 8))))))) = _; rw [k10, k20, k31, ac, nc, decide_eq_false (show ¬ a + n ≤ 65536 by omega)]; rfl]; decide)]⟩, rfo_c (g := (tp, an, D, (fr, wv, hs), (v, RQ, RS, SC, er, mb), ck)) (th := 0) (F := F) (lt := lt) (lf := lf) (AN := AN) (PD := PD) (DL := DL) (X := []) hc (stars_ixn hL 14 rfl [0, 1, 2, 3, 4, 5, 6, 7, 8, 9, 10, 11, 12, 13] (by decide) rfl)⟩)
        · have k40 := j_gt_f (a := (a + n)) (b := 65536) (by omega) (by omega) c40
          refine e_iload 45 dX15_limit_43 rfl rfl ?_
          refine e_iconst 46 (v := (nI 0)) dX15_limit_45 rfl (by decide) ?_
          refine e_ldc 48 (v := (nI 65535)) dX15_limit_46 rfl cn_X15_76 ?_
          refine u_callS 51 dX15_limit_48 rfl cs_X15_81 u_inI rfl rfl (Nat.le_of_ble_eq_true rfl) (by decide) ⟨by omega, by omega⟩ ?_
          refine e_if_eq 66 54 dX15_limit_51 rfl rfl (fun c51 => ?_) (fun c51 => ?_)
          · have k51 := jb_eq_t c51
            refine e_iconst 67 (v := (nI 0)) dX15_limit_66 rfl (by decide) ?_
            exact e_zret dX15_limit_67 rfl (Or.inl (by decide)) (by omega) (by omega) (⟨_, ⟨by rw [show lmC (tp, an, D, (fr, wv, hs), (v, RQ, RS, SC, er, mb), ck) (nI i) (nI a) (nI n) x4 x5 = false by show (dIn D.length (nI i) && (inI (nI a) (nI 0) (nI 65535) && (inI (nI n) (nI 1) (nI 65536) && (decide ((nI a).toNatClampNeg + (nI n).toNatClampNeg ≤ 65536) && (inI x4 (nI 0) (nI 65535) && (inI x5 x4 (nI 65535) && decide ((gD (tp, an, D, (fr, wv, hs), (v, RQ, RS, SC, er, mb), ck) (nI i).toNatClampNeg).1 8 < 8))))))) = _; rw [k10, k20, k31, ac, nc, decide_eq_true (show a + n ≤ 65536 by omega), k51]; rfl]; rfl, by rw [lmG, if_neg (show ¬ lmC (tp, an, D, (fr, wv, hs), (v, RQ, RS, SC, er, mb), ck) (nI i) (nI a) (nI n) x4 x5 = true by rw [show lmC (tp, an, D, (fr, wv, hs), (v, RQ, RS, SC, er, mb), ck) (nI i) (nI a) (nI n) x4 x5 = false by show (dIn D.length (nI i) && (inI (nI a) (nI 0) (nI 65535) && (inI (nI n) (nI 1) (nI 65536) && (decide ((nI a).toNatClampNeg + (nI n).toNatClampNeg ≤ 65536) && (inI x4 (nI 0) (nI 65535) && (inI x5 x4 (nI 65535) && decide ((gD (tp, an, D, (fr, wv, hs), (v, RQ, RS, SC, er, mb), ck) (nI i).toNatClampNeg).1 8 < 8))))))) = _; rw [k10, k20, k31, ac, nc, decide_eq_true (show a + n ≤ 65536 by omega), k51]; rfl]; decide)]⟩, rfo_c (g := (tp, an, D, (fr, wv, hs), (v, RQ, RS, SC, er, mb), ck)) (th := 0) (F := F) (lt := lt) (lf := lf) (AN := AN) (PD := PD) (DL := DL) (X := []) hc (stars_ixn hL 14 rfl [0, 1, 2, 3, 4, 5, 6, 7, 8, 9, 10, 11, 12, 13] (by decide) rfl)⟩)
          · have k51 := jb_eq_f c51
            obtain ⟨lo, rfl, loa, lob⟩ := inI_nat (by first | decide | omega) (by first | decide | omega) k51
            have loc : (nI lo).toNatClampNeg = lo := nI_clamp (by omega)
            refine e_iload 56 dX15_limit_54 rfl rfl ?_
            refine e_iload 58 dX15_limit_56 rfl rfl ?_
            refine e_ldc 60 (v := (nI 65535)) dX15_limit_58 rfl cn_X15_76 ?_
            refine u_callS 63 dX15_limit_60 rfl cs_X15_81 u_inI rfl rfl (Nat.le_of_ble_eq_true rfl) (by decide) ⟨by omega, by omega⟩ ?_
            refine e_if_ne 68 66 dX15_limit_63 rfl rfl (fun c63 => ?_) (fun c63 => ?_)
            · have k63 := jb_ne_t c63
              obtain ⟨hi9, rfl, hi9a, hi9b⟩ := inI_nat (by first | decide | omega) (by first | decide | omega) k63
              have hi9c : (nI hi9).toNatClampNeg = hi9 := nI_clamp (by omega)
              refine e_aload_n 69 dX15_limit_68 rfl rfl ?_
              refine e_get 72 (v := (.ref (F 1))) dX15_limit_69 rfl fl_X15_9_13 (stars_at _ 0 hL rfl) rfl ?_
              refine e_iload_n 73 dX15_limit_72 rfl rfl ?_
              refine p_aaldD 74 hL 1 (v := d) (k := i) rfl (adD_at he) dX15_limit_73 rfl (by omega) ?_
              obtain ⟨A73, v73_0, v73_1, v73_2, v73_3, v73_4, v73_5, v73_6, v73_7, v73_8, v73_9, v73_10, v73_11, v73_12, v73_13, v73_14, v73_15, v73_16, v73_17, v73_18, v73_19, v73_20, v73_21⟩ := lst_V 2 hL rfl he
              refine e_astore 76 (ls' := [some (.ref m), some (.int (nI i)), some (.int (nI a)), some (.int (nI n)), some (.int (nI lo)), some (.int (nI hi9)), some (.ref d)]) dX15_limit_74 rfl (by decide) rfl ?_
              refine e_aload 78 dX15_limit_76 rfl rfl ?_
              refine e_get 81 (v := (.int (nI (s.1 8)))) dX15_limit_78 rfl fl_X15_447_10 v73_0 rfl ?_
              refine e_bipush 83 (v := (nI 8)) dX15_limit_81 rfl (by decide) ?_
              refine e_icmp_ne 88 86 dX15_limit_83 rfl rfl (fun c83 => ?_) (fun c83 => ?_)
              · have k83 := j_ne_t (a := (s.1 8)) (b := 8) (by omega) (by omega) c83
                have hL : stars [lst rdve DL, pt m (.inr (13, moF F (upN (mW (tp, an, D, (fr, wv, hs), (v, RQ, RS, SC, er, mb), ck) th AN.length lt lf) 0 0) (decide (wv 5 ≠ 0)))), pt (F 1) (.inl (6, 6, .inr (.inr (.inr (.inr (adD DL)))))), iar (F 3) 300 AN, iar (F 5) 260 PD, rst (F 6) er (v 20) (mb 1) (mb 2), rrw (F 12) 16 3 (RQ.map rqE), rrw (F 13) 32 5 (RS.map rsE), rrw (F 14) 8 4 (SC.map scE), iar (F 21) 260 fr, iar (F 31) 64 (hs.map (·.1)), iar (F 32) 64 (hs.map (·.2)), iar (F 34) 400 tp, iar (F 36) 300 an] h := stars_ixn hL 14 rfl [2, 0, 1, 3, 4, 5, 6, 7, 8, 9, 10, 11, 12, 13] (by decide) rfl
                have hL : stars [rdv d s, lst rdve (DL.eraseIdx i), pt m (.inr (13, moF F (upN (mW (tp, an, D, (fr, wv, hs), (v, RQ, RS, SC, er, mb), ck) th AN.length lt lf) 0 0) (decide (wv 5 ≠ 0)))), pt (F 1) (.inl (6, 6, .inr (.inr (.inr (.inr (adD DL)))))), iar (F 3) 300 AN, iar (F 5) 260 PD, rst (F 6) er (v 20) (mb 1) (mb 2), rrw (F 12) 16 3 (RQ.map rqE), rrw (F 13) 32 5 (RS.map rsE), rrw (F 14) 8 4 (SC.map scE), iar (F 21) 260 fr, iar (F 31) 64 (hs.map (·.1)), iar (F 32) 64 (hs.map (·.2)), iar (F 34) 400 tp, iar (F 36) 300 an] h := lst_o i he hL
                obtain ⟨A, hL⟩ := rdv_ol hL
                have hL : stars [pt d (.inr (10, rdF A s)), iar (A 12) 8 (lmR s 0), iar (A 13) 8 (lmN s), iar (A 14) 8 (lmR s 2), iar (A 15) 8 (lmR s 3), rRl A s, lst rdve (DL.eraseIdx i), pt m (.inr (13, moF F (upN (mW (tp, an, D, (fr, wv, hs), (v, RQ, RS, SC, er, mb), ck) th AN.length lt lf) 0 0) (decide (wv 5 ≠ 0)))), pt (F 1) (.inl (6, 6, .inr (.inr (.inr (.inr (adD DL)))))), iar (F 3) 300 AN, iar (F 5) 260 PD, rst (F 6) er (v 20) (mb 1) (mb 2), rrw (F 12) 16 3 (RQ.map rqE), rrw (F 13) 32 5 (RS.map rsE), rrw (F 14) 8 4 (SC.map scE), iar (F 21) 260 fr, iar (F 31) 64 (hs.map (·.1)), iar (F 32) 64 (hs.map (·.2)), iar (F 34) 400 tp, iar (F 36) 300 an] h := hL
                refine e_aload 90 dX15_limit_88 rfl rfl ?_
                refine e_get 93 (v := (.ref (A 12))) dX15_limit_90 rfl fl_X15_450_10 (stars_at _ 0 hL rfl) rfl ?_
                refine e_aload 95 dX15_limit_93 rfl rfl ?_
                refine e_get 98 (v := (.int (nI (s.1 8)))) dX15_limit_95 rfl fl_X15_447_10 (stars_at _ 0 hL rfl) rfl ?_
                refine e_iload_n 99 dX15_limit_98 rfl rfl ?_
                refine p_iastR 100 hL 1 (r := (lmR s 0)) (r' := (tbl (s.1 8 + 1) (fun i => (lmA (dM s) (s.1 8) a n lo hi9) (i * 4 + 0)))) (k := (s.1 8)) (v := a) (L' := [pt d (.inr (10, rdF A s)), iar (A 12) 8 (tbl (s.1 8 + 1) (fun i => (lmA (dM s) (s.1 8) a n lo hi9) (i * 4 + 0))), iar (A 13) 8 (lmN s), iar (A 14) 8 (lmR s 2), iar (A 15) 8 (lmR s 3), rRl A s, lst rdve (DL.eraseIdx i), pt m (.inr (13, moF F (upN (mW (tp, an, D, (fr, wv, hs), (v, RQ, RS, SC, er, mb), ck) th AN.length lt lf) 0 0) (decide (wv 5 ≠ 0)))), pt (F 1) (.inl (6, 6, .inr (.inr (.inr (.inr (adD DL)))))), iar (F 3) 300 AN, iar (F 5) 260 PD, rst (F 6) er (v 20) (mb 1) (mb 2), rrw (F 12) 16 3 (RQ.map rqE), rrw (F 13) 32 5 (RS.map rsE), rrw (F 14) 8 4 (SC.map scE), iar (F 21) 260 fr, iar (F 31) 64 (hs.map (·.1)), iar (F 32) 64 (hs.map (·.2)), iar (F 34) 400 tp, iar (F 36) 300 an]) rfl dX15_limit_99 rfl (by omega) (by omega) (iw_tb (by omega) lmA_new.1 (fun i hi => lmA_at hi (by decide))) rfl (fun h hL => ?_)
                refine e_aload 102 dX15_limit_100 rfl rfl ?_
                refine e_get 105 (v := (.ref (A 13))) dX15_limit_102 rfl fl_X15_453_10 (stars_at _ 0 hL rfl) rfl ?_
                refine e_aload 107 dX15_limit_105 rfl rfl ?_
                refine e_get 110 (v := (.int (nI (s.1 8)))) dX15_limit_107 rfl fl_X15_447_10 (stars_at _ 0 hL rfl) rfl ?_
                refine e_iload_n 111 dX15_limit_110 rfl rfl ?_
                refine p_iastR 112 hL 2 (r := (lmN s)) (r' := (tbl (s.1 8 + 1) (fun i => (lmA (dM s) (s.1 8) a n lo hi9) (i * 4 + 1) + 1 - (lmA (dM s) (s.1 8) a n lo hi9) (i * 4)))) (k := (s.1 8)) (v := n) (L' := [pt d (.inr (10, rdF A s)), iar (A 12) 8 (tbl (s.1 8 + 1) (fun i => (lmA (dM s) (s.1 8) a n lo hi9) (i * 4 + 0))), iar (A 13) 8 (tbl (s.1 8 + 1) (fun i => (lmA (dM s) (s.1 8) a n lo hi9) (i * 4 + 1) + 1 - (lmA (dM s) (s.1 8) a n lo hi9) (i * 4))), iar (A 14) 8 (lmR s 2), iar (A 15) 8 (lmR s 3), rRl A s, lst rdve (DL.eraseIdx i), pt m (.inr (13, moF F (upN (mW (tp, an, D, (fr, wv, hs), (v, RQ, RS, SC, er, mb), ck) th AN.length lt lf) 0 0) (decide (wv 5 ≠ 0)))), pt (F 1) (.inl (6, 6, .inr (.inr (.inr (.inr (adD DL)))))), iar (F 3) 300 AN, iar (F 5) 260 PD, rst (F 6) er (v 20) (mb 1) (mb 2), rrw (F 12) 16 3 (RQ.map rqE), rrw (F 13) 32 5 (RS.map rsE), rrw (F 14) 8 4 (SC.map scE), iar (F 21) 260 fr, iar (F 31) 64 (hs.map (·.1)), iar (F 32) 64 (hs.map (·.2)), iar (F 34) 400 tp, iar (F 36) 300 an]) rfl dX15_limit_111 rfl (by omega) (by omega) (iw_tb (by omega) (by have z0 := (lmA_new (lm := dM s) (n := s.1 8) (a := a) (m := n) (lo := lo) (hi := hi9)).1; have z1 := (lmA_new (lm := dM s) (n := s.1 8) (a := a) (m := n) (lo := lo) (hi := hi9)).2.1; rw [Nat.add_zero] at z0; show (lmA (dM s) (s.1 8) a n lo hi9) (s.1 8 * 4 + 1) + 1 - (lmA (dM s) (s.1 8) a n lo hi9) (s.1 8 * 4) = n; rw [z0, z1]; omega) (fun i hi => by have y0 := lmA_at (lm := dM s) (a := a) (m := n) (lo := lo) (hi := hi9) (j := 0) hi (by decide); have y1 := lmA_at (lm := dM s) (a := a) (m := n) (lo := lo) (hi := hi9) (j := 1) hi (by decide); rw [Nat.add_zero] at y0; show (lmA (dM s) (s.1 8) a n lo hi9) (i * 4 + 1) + 1 - (lmA (dM s) (s.1 8) a n lo hi9) (i * 4) = _; rw [y0, y1])) rfl (fun h hL => ?_)
                refine e_aload 114 dX15_limit_112 rfl rfl ?_
                refine e_get 117 (v := (.ref (A 14))) dX15_limit_114 rfl fl_X15_456_10 (stars_at _ 0 hL rfl) rfl ?_
                refine e_aload 119 dX15_limit_117 rfl rfl ?_
                refine e_get 122 (v := (.int (nI (s.1 8)))) dX15_limit_119 rfl fl_X15_447_10 (stars_at _ 0 hL rfl) rfl ?_
                refine e_iload 124 dX15_limit_122 rfl rfl ?_
                refine p_iastR 125 hL 3 (r := (lmR s 2)) (r' := (tbl (s.1 8 + 1) (fun i => (lmA (dM s) (s.1 8) a n lo hi9) (i * 4 + 2)))) (k := (s.1 8)) (v := lo) (L' := [pt d (.inr (10, rdF A s)), iar (A 12) 8 (tbl (s.1 8 + 1) (fun i => (lmA (dM s) (s.1 8) a n lo hi9) (i * 4 + 0))), iar (A 13) 8 (tbl (s.1 8 + 1) (fun i => (lmA (dM s) (s.1 8) a n lo hi9) (i * 4 + 1) + 1 - (lmA (dM s) (s.1 8) a n lo hi9) (i * 4))), iar (A 14) 8 (tbl (s.1 8 + 1) (fun i => (lmA (dM s) (s.1 8) a n lo hi9) (i * 4 + 2))), iar (A 15) 8 (lmR s 3), rRl A s, lst rdve (DL.eraseIdx i), pt m (.inr (13, moF F (upN (mW (tp, an, D, (fr, wv, hs), (v, RQ, RS, SC, er, mb), ck) th AN.length lt lf) 0 0) (decide (wv 5 ≠ 0)))), pt (F 1) (.inl (6, 6, .inr (.inr (.inr (.inr (adD DL)))))), iar (F 3) 300 AN, iar (F 5) 260 PD, rst (F 6) er (v 20) (mb 1) (mb 2), rrw (F 12) 16 3 (RQ.map rqE), rrw (F 13) 32 5 (RS.map rsE), rrw (F 14) 8 4 (SC.map scE), iar (F 21) 260 fr, iar (F 31) 64 (hs.map (·.1)), iar (F 32) 64 (hs.map (·.2)), iar (F 34) 400 tp, iar (F 36) 300 an]) rfl dX15_limit_124 rfl (by omega) (by omega) (iw_tb (by omega) lmA_new.2.2.1 (fun i hi => lmA_at hi (by decide))) rfl (fun h hL => ?_)
                refine e_aload 127 dX15_limit_125 rfl rfl ?_
                refine e_get 130 (v := (.ref (A 15))) dX15_limit_127 rfl fl_X15_459_10 (stars_at _ 0 hL rfl) rfl ?_
                refine e_aload 132 dX15_limit_130 rfl rfl ?_
                refine e_get 135 (v := (.int (nI (s.1 8)))) dX15_limit_132 rfl fl_X15_447_10 (stars_at _ 0 hL rfl) rfl ?_
                refine e_iload 137 dX15_limit_135 rfl rfl ?_
                refine p_iastR 138 hL 4 (r := (lmR s 3)) (r' := (tbl (s.1 8 + 1) (fun i => (lmA (dM s) (s.1 8) a n lo hi9) (i * 4 + 3)))) (k := (s.1 8)) (v := hi9) (L' := [pt d (.inr (10, rdF A s)), iar (A 12) 8 (tbl (s.1 8 + 1) (fun i => (lmA (dM s) (s.1 8) a n lo hi9) (i * 4 + 0))), iar (A 13) 8 (tbl (s.1 8 + 1) (fun i => (lmA (dM s) (s.1 8) a n lo hi9) (i * 4 + 1) + 1 - (lmA (dM s) (s.1 8) a n lo hi9) (i * 4))), iar (A 14) 8 (tbl (s.1 8 + 1) (fun i => (lmA (dM s) (s.1 8) a n lo hi9) (i * 4 + 2))), iar (A 15) 8 (tbl (s.1 8 + 1) (fun i => (lmA (dM s) (s.1 8) a n lo hi9) (i * 4 + 3))), rRl A s, lst rdve (DL.eraseIdx i), pt m (.inr (13, moF F (upN (mW (tp, an, D, (fr, wv, hs), (v, RQ, RS, SC, er, mb), ck) th AN.length lt lf) 0 0) (decide (wv 5 ≠ 0)))), pt (F 1) (.inl (6, 6, .inr (.inr (.inr (.inr (adD DL)))))), iar (F 3) 300 AN, iar (F 5) 260 PD, rst (F 6) er (v 20) (mb 1) (mb 2), rrw (F 12) 16 3 (RQ.map rqE), rrw (F 13) 32 5 (RS.map rsE), rrw (F 14) 8 4 (SC.map scE), iar (F 21) 260 fr, iar (F 31) 64 (hs.map (·.1)), iar (F 32) 64 (hs.map (·.2)), iar (F 34) 400 tp, iar (F 36) 300 an]) rfl dX15_limit_137 rfl (by omega) (by omega) (iw_tb (by omega) lmA_new.2.2.2 (fun i hi => lmA_at hi (by decide))) rfl (fun h hL => ?_)
                refine e_aload 140 dX15_limit_138 rfl rfl ?_
                refine e_dup 141 dX15_limit_140 rfl rfl ?_
                refine e_get 144 (v := (.int (nI (s.1 8)))) dX15_limit_141 rfl fl_X15_447_10 (stars_at _ 0 hL rfl) rfl ?_
                refine e_iconst 145 (v := (nI 1)) dX15_limit_144 rfl (by decide) ?_
                refine e_iadd 146 (v := (nI ((s.1 8) + 1))) dX15_limit_145 rfl (nI_add (s.1 8) 1) ?_
                refine p_put 149 hL 0 (fs' := (rdF A s).set 11 (.int (nI ((s.1 8) + 1)))) (L' := [pt d (.inr (10, (rdF A s).set 11 (.int (nI ((s.1 8) + 1))))), iar (A 12) 8 (tbl (s.1 8 + 1) (fun i => (lmA (dM s) (s.1 8) a n lo hi9) (i * 4 + 0))), iar (A 13) 8 (tbl (s.1 8 + 1) (fun i => (lmA (dM s) (s.1 8) a n lo hi9) (i * 4 + 1) + 1 - (lmA (dM s) (s.1 8) a n lo hi9) (i * 4))), iar (A 14) 8 (tbl (s.1 8 + 1) (fun i => (lmA (dM s) (s.1 8) a n lo hi9) (i * 4 + 2))), iar (A 15) 8 (tbl (s.1 8 + 1) (fun i => (lmA (dM s) (s.1 8) a n lo hi9) (i * 4 + 3))), rRl A s, lst rdve (DL.eraseIdx i), pt m (.inr (13, moF F (upN (mW (tp, an, D, (fr, wv, hs), (v, RQ, RS, SC, er, mb), ck) th AN.length lt lf) 0 0) (decide (wv 5 ≠ 0)))), pt (F 1) (.inl (6, 6, .inr (.inr (.inr (.inr (adD DL)))))), iar (F 3) 300 AN, iar (F 5) 260 PD, rst (F 6) er (v 20) (mb 1) (mb 2), rrw (F 12) 16 3 (RQ.map rqE), rrw (F 13) 32 5 (RS.map rsE), rrw (F 14) 8 4 (SC.map scE), iar (F 21) 260 fr, iar (F 31) 64 (hs.map (·.1)), iar (F 32) 64 (hs.map (·.2)), iar (F 34) 400 tp, iar (F 36) 300 an]) rfl rfl dX15_limit_146 rfl fp_X15_447_10 (Or.inl rfl) (Nat.le_of_ble_eq_true rfl) rfl rfl rfl (fun h hL => ?_)
                have hL : stars [rdv d (lmS s a n lo hi9), lst rdve (DL.eraseIdx i), pt m (.inr (13, moF F (upN (mW (tp, an, D, (fr, wv, hs), (v, RQ, RS, SC, er, mb), ck) th AN.length lt lf) 0 0) (decide (wv 5 ≠ 0)))), pt (F 1) (.inl (6, 6, .inr (.inr (.inr (.inr (adD DL)))))), iar (F 3) 300 AN, iar (F 5) 260 PD, rst (F 6) er (v 20) (mb 1) (mb 2), rrw (F 12) 16 3 (RQ.map rqE), rrw (F 13) 32 5 (RS.map rsE), rrw (F 14) 8 4 (SC.map scE), iar (F 21) 260 fr, iar (F 31) 64 (hs.map (·.1)), iar (F 32) 64 (hs.map (·.2)), iar (F 34) 400 tp, iar (F 36) 300 an] h := rdv_cl (s := s) (A := A) (fs' := (rdF A s).set 11 (.int (nI ((s.1 8) + 1)))) (n := s.1 8 + 1) (lm := (lmA (dM s) (s.1 8) a n lo hi9)) rfl hL
                have hL : stars [lst rdve (DL.set i (d, (lmS s a n lo hi9))), pt m (.inr (13, moF F (upN (mW (tp, an, D, (fr, wv, hs), (v, RQ, RS, SC, er, mb), ck) th AN.length lt lf) 0 0) (decide (wv 5 ≠ 0)))), pt (F 1) (.inl (6, 6, .inr (.inr (.inr (.inr (adD DL)))))), iar (F 3) 300 AN, iar (F 5) 260 PD, rst (F 6) er (v 20) (mb 1) (mb 2), rrw (F 12) 16 3 (RQ.map rqE), rrw (F 13) 32 5 (RS.map rsE), rrw (F 14) 8 4 (SC.map scE), iar (F 21) 260 fr, iar (F 31) 64 (hs.map (·.1)), iar (F 32) 64 (hs.map (·.2)), iar (F 34) 400 tp, iar (F 36) 300 an] h := lst_c (f := rdve) (x := (d, (lmS s a n lo hi9))) i (by omega) hL
                rw [adD_set he (lmS s a n lo hi9)] at hL
                have hL : stars [lst rdve (DL.set i (d, (lmS s a n lo hi9))), pt m (.inr (13, moF F (upN (mW (tp, an, D, (fr, wv, hs), (v, RQ, RS, SC, er, mb), ck) th AN.length lt lf) 0 0) (decide (wv 5 ≠ 0)))), pt (F 1) (.inl (6, 6, .inr (.inr (.inr (.inr (adD (DL.set i (d, (lmS s a n lo hi9))))))))), iar (F 3) 300 AN, iar (F 5) 260 PD, rst (F 6) er (v 20) (mb 1) (mb 2), rrw (F 12) 16 3 (RQ.map rqE), rrw (F 13) 32 5 (RS.map rsE), rrw (F 14) 8 4 (SC.map scE), iar (F 21) 260 fr, iar (F 31) 64 (hs.map (·.1)), iar (F 32) 64 (hs.map (·.2)), iar (F 34) 400 tp, iar (F 36) 300 an] h := hL
                have eo : moF F (upN (mW (tp, an, D, (fr, wv, hs), (v, RQ, RS, SC, er, mb), ck) th AN.length lt lf) 0 0) (decide (wv 5 ≠ 0)) = moF F (upN (upN (mW (tp, an, D, (fr, wv, hs), (v, RQ, RS, SC, er, mb), ck) th AN.length lt lf) 0 0) 2 (D.set i (lmS s a n lo hi9)).length) (decide (wv 5 ≠ 0)) := by rw [List.length_set]; rfl
                rw [eo] at hL
                have hL : stars [lst rdve (DL.set i (d, (lmS s a n lo hi9))), pt m (.inr (13, moF F (upN (upN (mW (tp, an, D, (fr, wv, hs), (v, RQ, RS, SC, er, mb), ck) th AN.length lt lf) 0 0) 2 (D.set i (lmS s a n lo hi9)).length) (decide (wv 5 ≠ 0)))), pt (F 1) (.inl (6, 6, .inr (.inr (.inr (.inr (adD (DL.set i (d, (lmS s a n lo hi9))))))))), iar (F 3) 300 AN, iar (F 5) 260 PD, rst (F 6) er (v 20) (mb 1) (mb 2), rrw (F 12) 16 3 (RQ.map rqE), rrw (F 13) 32 5 (RS.map rsE), rrw (F 14) 8 4 (SC.map scE), iar (F 21) 260 fr, iar (F 31) 64 (hs.map (·.1)), iar (F 32) 64 (hs.map (·.2)), iar (F 34) 400 tp, iar (F 36) 300 an] h := hL
                refine e_iconst 150 (v := (nI 1)) dX15_limit_149 rfl (by decide) ?_
                exact e_zret dX15_limit_150 rfl (Or.inr (by decide)) (by omega) (by omega) (⟨_, ⟨by rw [show lmC (tp, an, D, (fr, wv, hs), (v, RQ, RS, SC, er, mb), ck) (nI i) (nI a) (nI n) (nI lo) (nI hi9) = true by show (dIn D.length (nI i) && (inI (nI a) (nI 0) (nI 65535) && (inI (nI n) (nI 1) (nI 65536) && (decide ((nI a).toNatClampNeg + (nI n).toNatClampNeg ≤ 65536) && (inI (nI lo) (nI 0) (nI 65535) && (inI (nI hi9) (nI lo) (nI 65535) && decide ((gD (tp, an, D, (fr, wv, hs), (v, RQ, RS, SC, er, mb), ck) (nI i).toNatClampNeg).1 8 < 8))))))) = _; rw [k10, k20, k31, ac, nc, decide_eq_true (show a + n ≤ 65536 by omega), k51, k63, ic, hg, decide_eq_true (show s.1 8 < 8 by omega)]; rfl]; rfl, by rw [lmG, if_pos (show lmC (tp, an, D, (fr, wv, hs), (v, RQ, RS, SC, er, mb), ck) (nI i) (nI a) (nI n) (nI lo) (nI hi9) = true by show (dIn D.length (nI i) && (inI (nI a) (nI 0) (nI 65535) && (inI (nI n) (nI 1) (nI 65536) && (decide ((nI a).toNatClampNeg + (nI n).toNatClampNeg ≤ 65536) && (inI (nI lo) (nI 0) (nI 65535) && (inI (nI hi9) (nI lo) (nI 65535) && decide ((gD (tp, an, D, (fr, wv, hs), (v, RQ, RS, SC, er, mb), ck) (nI i).toNatClampNeg).1 8 < 8))))))) = _; rw [k10, k20, k31, ac, nc, decide_eq_true (show a + n ≤ 65536 by omega), k51, k63, ic, hg, decide_eq_true (show s.1 8 < 8 by omega)]; rfl), ic, ac, nc, loc, hi9c, hg]⟩, rfo_c (g := (tp, an, D.set i (lmS s a n lo hi9), (fr, wv, hs), (v, RQ, RS, SC, er, mb), ck)) (th := 0) (F := F) (lt := lt) (lf := lf) (AN := AN) (PD := PD) (DL := (DL.set i (d, (lmS s a n lo hi9)))) (X := []) (rfC_set (s1 := (lmS s a n lo hi9)) hc he hi) (stars_ixn hL 14 rfl [1, 2, 0, 3, 4, 5, 6, 7, 8, 9, 10, 11, 12, 13] (by decide) rfl)⟩)
              · have k83 := j_ne_f (a := (s.1 8)) (b := 8) (by omega) (by omega) c83
                refine e_iconst 87 (v := (nI 0)) dX15_limit_86 rfl (by decide) ?_
                exact e_zret dX15_limit_87 rfl (Or.inl (by decide)) (by omega) (by omega) (⟨_, ⟨by rw [show lmC (tp, an, D, (fr, wv, hs), (v, RQ, RS, SC, er, mb), ck) (nI i) (nI a) (nI n) (nI lo) (nI hi9) = false by show (dIn D.length (nI i) && (inI (nI a) (nI 0) (nI 65535) && (inI (nI n) (nI 1) (nI 65536) && (decide ((nI a).toNatClampNeg + (nI n).toNatClampNeg ≤ 65536) && (inI (nI lo) (nI 0) (nI 65535) && (inI (nI hi9) (nI lo) (nI 65535) && decide ((gD (tp, an, D, (fr, wv, hs), (v, RQ, RS, SC, er, mb), ck) (nI i).toNatClampNeg).1 8 < 8))))))) = _; rw [k10, k20, k31, ac, nc, decide_eq_true (show a + n ≤ 65536 by omega), k51, k63, ic, hg, decide_eq_false (show ¬ s.1 8 < 8 by omega)]; rfl]; rfl, by rw [lmG, if_neg (show ¬ lmC (tp, an, D, (fr, wv, hs), (v, RQ, RS, SC, er, mb), ck) (nI i) (nI a) (nI n) (nI lo) (nI hi9) = true by rw [show lmC (tp, an, D, (fr, wv, hs), (v, RQ, RS, SC, er, mb), ck) (nI i) (nI a) (nI n) (nI lo) (nI hi9) = false by show (dIn D.length (nI i) && (inI (nI a) (nI 0) (nI 65535) && (inI (nI n) (nI 1) (nI 65536) && (decide ((nI a).toNatClampNeg + (nI n).toNatClampNeg ≤ 65536) && (inI (nI lo) (nI 0) (nI 65535) && (inI (nI hi9) (nI lo) (nI 65535) && decide ((gD (tp, an, D, (fr, wv, hs), (v, RQ, RS, SC, er, mb), ck) (nI i).toNatClampNeg).1 8 < 8))))))) = _; rw [k10, k20, k31, ac, nc, decide_eq_true (show a + n ≤ 65536 by omega), k51, k63, ic, hg, decide_eq_false (show ¬ s.1 8 < 8 by omega)]; rfl]; decide)]⟩, rfo_c (g := (tp, an, D, (fr, wv, hs), (v, RQ, RS, SC, er, mb), ck)) (th := 0) (F := F) (lt := lt) (lf := lf) (AN := AN) (PD := PD) (DL := DL) (X := []) hc (stars_ixn hL 14 rfl [0, 1, 2, 3, 4, 5, 6, 7, 8, 9, 10, 11, 12, 13] (by decide) rfl)⟩)
            · have k63 := jb_ne_f c63
              refine e_iconst 67 (v := (nI 0)) dX15_limit_66 rfl (by decide) ?_
              exact e_zret dX15_limit_67 rfl (Or.inl (by decide)) (by omega) (by omega) (⟨_, ⟨by rw [show lmC (tp, an, D, (fr, wv, hs), (v, RQ, RS, SC, er, mb), ck) (nI i) (nI a) (nI n) (nI lo) x5 = false by show (dIn D.length (nI i) && (inI (nI a) (nI 0) (nI 65535) && (inI (nI n) (nI 1) (nI 65536) && (decide ((nI a).toNatClampNeg + (nI n).toNatClampNeg ≤ 65536) && (inI (nI lo) (nI 0) (nI 65535) && (inI x5 (nI lo) (nI 65535) && decide ((gD (tp, an, D, (fr, wv, hs), (v, RQ, RS, SC, er, mb), ck) (nI i).toNatClampNeg).1 8 < 8))))))) = _; rw [k10, k20, k31, ac, nc, decide_eq_true (show a + n ≤ 65536 by omega), k51, k63]; rfl]; rfl, by rw [lmG, if_neg (show ¬ lmC (tp, an, D, (fr, wv, hs), (v, RQ, RS, SC, er, mb), ck) (nI i) (nI a) (nI n) (nI lo) x5 = true by rw [show lmC (tp, an, D, (fr, wv, hs), (v, RQ, RS, SC, er, mb), ck) (nI i) (nI a) (nI n) (nI lo) x5 = false by show (dIn D.length (nI i) && (inI (nI a) (nI 0) (nI 65535) && (inI (nI n) (nI 1) (nI 65536) && (decide ((nI a).toNatClampNeg + (nI n).toNatClampNeg ≤ 65536) && (inI (nI lo) (nI 0) (nI 65535) && (inI x5 (nI lo) (nI 65535) && decide ((gD (tp, an, D, (fr, wv, hs), (v, RQ, RS, SC, er, mb), ck) (nI i).toNatClampNeg).1 8 < 8))))))) = _; rw [k10, k20, k31, ac, nc, decide_eq_true (show a + n ≤ 65536 by omega), k51, k63]; rfl]; decide)]⟩, rfo_c (g := (tp, an, D, (fr, wv, hs), (v, RQ, RS, SC, er, mb), ck)) (th := 0) (F := F) (lt := lt) (lf := lf) (AN := AN) (PD := PD) (DL := DL) (X := []) hc (stars_ixn hL 14 rfl [0, 1, 2, 3, 4, 5, 6, 7, 8, 9, 10, 11, 12, 13] (by decide) rfl)⟩)
