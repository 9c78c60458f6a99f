/-! the reference: its public methods on a device, second part -/
theorem rf_H {g : GS} {DL : List (Nat × DS)} {lt lf : Nat} {L : List sA} {h : eH} (hc : rfC g DL lt lf) (hE : ∀ s ∈ g.2.2.1, okD s ∧ okE s) (j : Nat) (hL : stars L h) (hj : L[j]? = some (lst rdve DL)) : ∀ i, i < g.2.2.1.length → ∃ d s, adD DL i = some d ∧ rdV d s h ∧ okE s ∧ gD g i = s := by
  intro i hi
  have h6 := hc.2.1
  obtain ⟨⟨d, s⟩, he⟩ : ∃ e, DL[i]? = some e := ⟨_, List.getElem?_eq_getElem (show i < DL.length by rw [rfC_len hc]; omega)⟩
  have hs := rfC_at hc he hi
  exact ⟨d, s, adD_at he, lst_V j hL hj he, (hE s (List.mem_of_getElem? hs)).2, gD_of (g := g) hs⟩
theorem j_m1 {j : Nat} (h : j < 2 ^ 31) : ¬ nI j = -1 := fun e => by
  have z := nI_toInt h
  rw [e] at z
  have y : (-1 : Int32).toInt = -1 := by decide
  omega
theorem plV_t {s : DS} {k : Nat} {a : Int32} (he : okE s) (hk : k < 4) (h : plI (dF s k) (dL s k).length a 1 = true) : ¬ plV s k a = -1 := by
  rw [plV, if_pos h]
  have z := of_decide_eq_true h
  have l : (dL s k).length ≤ 400 := (he.1 k hk).1
  exact j_m1 (by omega)
theorem plV_f {s : DS} {k : Nat} {a : Int32} (h : ¬ plV s k a = -1) : plI (dF s k) (dL s k).length a 1 = true := by
  cases z : plI (dF s k) (dL s k).length a 1 with
  | true => rfl
  | false => exact absurd (by rw [plV, z]; rfl) h
theorem and3 {a b c : Bool} (h : (a && (b && c)) = true) : a = true ∧ b = true ∧ c = true := by
  rw [Bool.and_eq_true, Bool.and_eq_true] at h
  exact h
theorem pl_nat {fr n : Nat} {x : Int32} (h : plI fr n x 1 = true) : ∃ a, x = nI a ∧ a < 2 ^ 31 ∧ fr ≤ a ∧ a < fr + n := by
  obtain ⟨h0, -, h2, h3⟩ := of_decide_eq_true h
  have h4 := Int32.not_lt.mp h0
  rw [Int32.le_iff_toInt_le] at h4
  have h5 : (0 : Int32).toInt = 0 := rfl
  have h6 := x.toInt_lt
  have e : x = nI x.toInt.toNat := by
    apply Int32.toInt_inj.mp
    rw [nI_toInt (by omega)]
    omega
  have c : x.toNatClampNeg = x.toInt.toNat := by rw [e, nI_clamp (by omega), ← e]
  exact ⟨x.toInt.toNat, e, by omega, by omega, by omega⟩
theorem gt_f {g : GS} {d k a : Int32} (h : ptC g d k a = false) : gtR g d k a = -1 := by
  unfold gtR
  split
  · rename_i z
    rw [Bool.and_eq_true] at z
    unfold ptC at h
    rw [z.1, z.2, Bool.true_and, Bool.true_and] at h
    rw [vlI, h]
    rfl
  · rfl
theorem ptS_pu {s : DS} {k a : Nat} {x : Int32} (ha : a < 2 ^ 31) (hr : dF s k ≤ a ∧ a < dF s k + (dL s k).length) : ptS s k (nI a) x = puD s k (a - dF s k) (mv (mkD k) x) := by
  have hr2 : s.2.1 k ≤ a ∧ a < s.2.1 k + (s.2.2.2.2.1 k).length := hr
  unfold ptS puD wrI
  rw [if_pos (plI_t ha (by decide) hr2.1 (by omega)), nI_clamp ha]
theorem iw_kys {M : List (Nat × List Nat)} {e : Nat × List Nat} {cap : Nat} (h : M.length < cap) : (kys (M ++ [e])).length ≤ cap ∧ ∀ j, j < (kys (M ++ [e])).length → (j = M.length ∧ (kys (M ++ [e])).getD j 0 = e.1) ∨ (j ≠ M.length ∧ j < (kys M).length ∧ (kys (M ++ [e])).getD j 0 = (kys M).getD j 0) := by
  have q := iw_app (n := cap) (v := e.1) (r := kys M) (by rw [kys_len]; exact h)
  rw [kys_len (M := M)] at q
  rw [show kys (M ++ [e]) = kys M ++ [e.1] by simp [kys], kys_len (M := M)]
  exact q
theorem iw_szs {M : List (Nat × List Nat)} {e : Nat × List Nat} {cap : Nat} (h : M.length < cap) : (szs (M ++ [e])).length ≤ cap ∧ ∀ j, j < (szs (M ++ [e])).length → (j = M.length ∧ (szs (M ++ [e])).getD j 0 = e.2.length) ∨ (j ≠ M.length ∧ j < (szs M).length ∧ (szs (M ++ [e])).getD j 0 = (szs M).getD j 0) := by
  have q := iw_app (n := cap) (v := e.2.length) (r := szs M) (by rw [szs_len]; exact h)
  rw [szs_len (M := M)] at q
  rw [show szs (M ++ [e]) = szs M ++ [e.2.length] by simp [szs], szs_len (M := M)]
  exact q
theorem rwM_app0 {M : List (Nat × List Nat)} {k : Nat} : rwM (M ++ [(k, [])]) = rwM M := by
  funext i
  show ((M ++ [(k, [])])[i]?.getD (0, [])).2 = (M[i]?.getD (0, [])).2
  by_cases h : i < M.length
  · rw [List.getElem?_append_left h]
  · rw [List.getElem?_append_right (by omega), List.getElem?_eq_none (show M.length ≤ i by omega)]
    cases i - M.length <;> rfl
set_option maxRecDepth 20000 in
set_option maxHeartbeats 2000000 in
theorem u_isPlace {m : Nat} {F w : Nat → Nat} {bg : Bool} {g : GS} {f6 : Nat → Option Nat} {x1 x2 x3 : Int32} {h : eH} (ho : h m = some (.inr (13, moF F w bg))) (hw : w 2 = g.2.2.1.length) (hn : g.2.2.1.length < 2 ^ 30) (h6 : g.2.2.1.length ≤ 6) (hA : h (F 1) = some (.inl (6, 6, .inr (.inr (.inr (.inr f6)))))) (H : ∀ i, i < g.2.2.1.length → ∃ d s, f6 i = some d ∧ rdV d s h ∧ okE s ∧ gD g i = s) : PC mX15_isPlace [.ref m, .int x1, .int x2, .int x3] h (some (.int (bI (ptC g x1 x2 x3)))) 2 60 := by
  refine PC.mk 0 (ls := [some (.ref m), some (.int x1), some (.int x2), some (.int x3)]) rfl rfl (Nat.le_of_ble_eq_true rfl) rfl ?_
  refine e_aload_n 1 dX15_isPlace_0 rfl rfl ?_
  refine e_iload_n 2 dX15_isPlace_1 rfl rfl ?_
  refine u_callV 5 dX15_isPlace_2 rfl cv_X15_435 ho (u_isDev (n := g.2.2.1.length) ho hw hn) rfl rfl (Nat.le_of_ble_eq_true rfl) (by decide) ⟨by omega, by omega⟩ ?_
  refine e_if_eq 36 8 dX15_isPlace_5 rfl rfl (fun c5 => ?_) (fun c5 => ?_)
  · have k5 := jb_eq_t c5
    refine e_iconst 37 (v := (nI 0)) dX15_isPlace_36 rfl (by decide) ?_
    exact e_zret dX15_isPlace_37 rfl (Or.inl (by decide)) (by omega) (by omega) (⟨by unfold ptC; rw [k5]; rfl, rfl⟩)
  · have k5 := jb_eq_f c5
    obtain ⟨i, rfl, hi⟩ := dIn_nat (by omega) k5
    obtain ⟨d, s, ha, hv, hoe, hs⟩ := H i hi
    obtain ⟨A9, o9, -⟩ := id hv
    refine e_iload_n 9 dX15_isPlace_8 rfl rfl ?_
    refine e_iconst 10 (v := (nI 0)) dX15_isPlace_9 rfl (by decide) ?_
    refine e_iconst 11 (v := (nI 3)) dX15_isPlace_10 rfl (by decide) ?_
    refine u_callS 14 dX15_isPlace_11 rfl cs_X15_81 u_inI rfl rfl (Nat.le_of_ble_eq_true rfl) (by decide) ⟨by omega, by omega⟩ ?_
    refine e_if_eq 36 17 dX15_isPlace_14 rfl rfl (fun c14 => ?_) (fun c14 => ?_)
    · have k14 := jb_eq_t c14
      rw [in3] at k14
      refine e_iconst 37 (v := (nI 0)) dX15_isPlace_36 rfl (by decide) ?_
      exact e_zret dX15_isPlace_37 rfl (Or.inl (by decide)) (by omega) (by omega) (⟨by unfold ptC; rw [k5, k14]; rfl, rfl⟩)
    · have k14 := jb_eq_f c14
      rw [in3] at k14
      obtain ⟨k, rfl, hk⟩ := dIn_nat (by decide) k14
      refine e_aload_n 18 dX15_isPlace_17 rfl rfl ?_
      refine e_get 21 (v := (.ref (F 1))) dX15_isPlace_18 rfl fl_X15_9_13 ho (by first | rfl | (rw [← hw]; rfl)) ?_
      refine e_iload_n 22 dX15_isPlace_21 rfl rfl ?_
      refine e_aald 23 (v := .ref d) dX15_isPlace_22 rfl hA rfl (Or.inl ⟨_, rfl⟩) (vp_in_nI (by omega) (by decide)) (by rw [nI_clamp (by omega), ha]; rfl) ?_
      refine e_iload_n 24 dX15_isPlace_23 rfl rfl ?_
      refine e_iload_n 25 dX15_isPlace_24 rfl rfl ?_
      refine u_callV 28 dX15_isPlace_25 rfl cv_X15_441 o9 (u_placeI hv hoe hk) rfl rfl (Nat.le_of_ble_eq_true rfl) (by decide) ⟨by omega, by omega⟩ ?_
      refine e_iconst 29 (v := (-1)) dX15_isPlace_28 rfl (by decide) ?_
      refine e_icmp_eq 36 32 dX15_isPlace_29 rfl rfl (fun c29 => ?_) (fun c29 => ?_)
      · refine e_iconst 37 (v := (nI 0)) dX15_isPlace_36 rfl (by decide) ?_
        exact e_zret dX15_isPlace_37 rfl (Or.inl (by decide)) (by omega) (by omega) (⟨by unfold ptC; rw [k5, k14, nI_clamp (show i < 2 ^ 31 by omega), nI_clamp (show k < 2 ^ 31 by omega), hs, show plI (dF s k) (dL s k).length x3 1 = false by cases z : plI (dF s k) (dL s k).length x3 1 with | false => rfl | true => exact absurd c29 (plV_t hoe hk z)]; rfl, rfl⟩)
      · refine e_iconst 33 (v := (nI 1)) dX15_isPlace_32 rfl (by decide) ?_
        refine e_goto 37 dX15_isPlace_33 rfl ?_
        exact e_zret dX15_isPlace_37 rfl (Or.inr (by decide)) (by omega) (by omega) (⟨by unfold ptC; rw [k5, k14, nI_clamp (show i < 2 ^ 31 by omega), nI_clamp (show k < 2 ^ 31 by omega), hs, plV_f c29]; rfl, rfl⟩)
set_option maxRecDepth 20000 in
set_option maxHeartbeats 2000000 in
theorem k_X15_get {m th : Nat} {tp an fr : List Nat} {D : List DS} {wv : Nat → Nat} {hs : List (Nat × Nat)} {v : Nat → Nat} {RQ : List RQE} {RS : List RSE} {SC : List SCE} {er : List Nat} {mb : Nat → Bool} {ck : Nat} (hE : ∀ s ∈ D, okD s ∧ okE s) {x1 x2 x3 : Int32} : CA mX15_get [.ref m, .int x1, .int x2, .int x3] [rfo m (tp, an, D, (fr, wv, hs), (v, RQ, RS, SC, er, mb), ck) th] (fun r K => r = some (.int (gtR (tp, an, D, (fr, wv, hs), (v, RQ, RS, SC, er, mb), ck) x1 x2 x3)) ∧ K = [rfo m (tp, an, D, (fr, wv, hs), (v, RQ, RS, SC, er, mb), ck) 0]) 3 100 0 0 := by
  refine CA.mk 0 (ls := [some (.ref m), some (.int x1), some (.int x2), some (.int x3)]) rfl rfl (Nat.le_of_ble_eq_true rfl) rfl (fun h hL => ?_)
  obtain ⟨F, lt, lf, AN, PD, DL, hc, hL⟩ := rfo_o hL
  have hL : stars [pt m (.inr (13, moF F (mW (tp, an, D, (fr, wv, hs), (v, RQ, RS, SC, er, mb), ck) th AN.length lt lf) (decide (wv 5 ≠ 0)))), pt (F 1) (.inl (6, 6, .inr (.inr (.inr (.inr (adD DL)))))), lst rdve DL, iar (F 3) 300 AN, iar (F 5) 260 PD, rst (F 6) er (v 20) (mb 1) (mb 2), rrw (F 12) 16 3 (RQ.map rqE), rrw (F 13) 32 5 (RS.map rsE), rrw (F 14) 8 4 (SC.map scE), iar (F 21) 260 fr, iar (F 31) 64 (hs.map (·.1)), iar (F 32) 64 (hs.map (·.2)), iar (F 34) 400 tp, iar (F 36) 300 an] h := hL
  have ltp := (iar_V _ 12 hL rfl).le
  have lan := (iar_V _ 13 hL rfl).le
  have lfr := (iar_V _ 9 hL rfl).le
  have h6 : D.length ≤ 6 := hc.2.1
  have hl9 := rfC_len hc
  refine e_aload_n 1 dX15_get_0 rfl rfl ?_
  refine e_iconst 2 (v := (nI 0)) dX15_get_1 rfl (by decide) ?_
  refine p_put 5 hL 0 (fs' := moF F (upN (mW (tp, an, D, (fr, wv, hs), (v, RQ, RS, SC, er, mb), ck) th AN.length lt lf) 0 0) (decide (wv 5 ≠ 0))) (L' := [pt m (.inr (13, moF F (upN (mW (tp, an, D, (fr, wv, hs), (v, RQ, RS, SC, er, mb), ck) th AN.length lt lf) 0 0) (decide (wv 5 ≠ 0)))), pt (F 1) (.inl (6, 6, .inr (.inr (.inr (.inr (adD DL)))))), lst rdve DL, iar (F 3) 300 AN, iar (F 5) 260 PD, rst (F 6) er (v 20) (mb 1) (mb 2), rrw (F 12) 16 3 (RQ.map rqE), rrw (F 13) 32 5 (RS.map rsE), rrw (F 14) 8 4 (SC.map scE), iar (F 21) 260 fr, iar (F 31) 64 (hs.map (·.1)), iar (F 32) 64 (hs.map (·.2)), iar (F 34) 400 tp, iar (F 36) 300 an]) rfl rfl dX15_get_2 rfl fp_X15_73_13 (Or.inl rfl) (Nat.le_of_ble_eq_true rfl) rfl rfl rfl (fun h hL => ?_)
  refine e_aload_n 6 dX15_get_5 rfl rfl ?_
  refine e_iload_n 7 dX15_get_6 rfl rfl ?_
  refine e_iload_n 8 dX15_get_7 rfl rfl ?_
  refine e_iload_n 9 dX15_get_8 rfl rfl ?_
  refine u_callV 12 dX15_get_9 rfl cv_X15_444 (stars_at _ 0 hL rfl) (u_isPlace (g := (tp, an, D, (fr, wv, hs), (v, RQ, RS, SC, er, mb), ck)) (f6 := adD DL) (stars_at _ 0 hL rfl) rfl (show D.length < 2 ^ 30 by omega) h6 (stars_at _ 1 hL rfl) (rf_H hc hE 2 hL rfl)) rfl rfl (Nat.le_of_ble_eq_true rfl) (by decide) ⟨by omega, by omega⟩ ?_
  refine e_if_eq 29 15 dX15_get_12 rfl rfl (fun c12 => ?_) (fun c12 => ?_)
  · have k12 := jb_eq_t c12
    refine e_iconst 30 (v := (-1)) dX15_get_29 rfl (by decide) ?_
    exact e_iret dX15_get_30 rfl (by omega) (by omega) (⟨_, ⟨by rw [gt_f k12], rfl⟩, rfo_c (g := (tp, an, D, (fr, wv, hs), (v, RQ, RS, SC, er, mb), ck)) (th := 0) (F := F) (lt := lt) (lf := lf) (AN := AN) (PD := PD) (DL := DL) (X := []) hc (stars_ixn hL 14 rfl [0, 1, 2, 3, 4, 5, 6, 7, 8, 9, 10, 11, 12, 13] (by decide) rfl)⟩)
  · have k12 := jb_eq_f c12
    obtain ⟨k1, k2, k3⟩ := and3 (show (dIn D.length x1 && (dIn 4 x2 && plI (dF (gD (tp, an, D, (fr, wv, hs), (v, RQ, RS, SC, er, mb), ck) x1.toNatClampNeg) x2.toNatClampNeg) (dL (gD (tp, an, D, (fr, wv, hs), (v, RQ, RS, SC, er, mb), ck) x1.toNatClampNeg) x2.toNatClampNeg).length x3 1)) = true from k12)
    obtain ⟨i, rfl, hi⟩ := dIn_nat (by omega) k1
    have ic : (nI i).toNatClampNeg = i := nI_clamp (by omega)
    obtain ⟨⟨d, s⟩, he⟩ : ∃ e, DL[i]? = some e := ⟨_, List.getElem?_eq_getElem (show i < DL.length by omega)⟩
    have hsD : D[i]? = some s := rfC_at hc he hi
    have hg : gD (tp, an, D, (fr, wv, hs), (v, RQ, RS, SC, er, mb), ck) i = s := gD_of hsD
    obtain ⟨hok, hoe⟩ := hE s (List.mem_of_getElem? hsD)
    obtain ⟨k, rfl, hk⟩ := dIn_nat (by decide) k2
    have kc : (nI k).toNatClampNeg = k := nI_clamp (by omega)
    rw [ic, kc, hg] at k3
    obtain ⟨a, rfl, ha, hr⟩ := pl_nat k3
    refine e_aload_n 16 dX15_get_15 rfl rfl ?_
    refine e_get 19 (v := (.ref (F 1))) dX15_get_16 rfl fl_X15_9_13 (stars_at _ 0 hL rfl) rfl ?_
    refine e_iload_n 20 dX15_get_19 rfl rfl ?_
    refine p_aaldD 21 hL 1 (v := d) (k := i) rfl (adD_at he) dX15_get_20 rfl (by omega) ?_
    obtain ⟨A20, v20_0, v20_1, v20_2, v20_3, v20_4, v20_5, v20_6, v20_7, v20_8, v20_9, v20_10, v20_11, v20_12, v20_13, v20_14, v20_15, v20_16, v20_17, v20_18, v20_19, v20_20, v20_21⟩ := lst_V 2 hL rfl he
    refine e_iload_n 22 dX15_get_21 rfl rfl ?_
    refine e_iload_n 23 dX15_get_22 rfl rfl ?_
    refine u_callV 26 dX15_get_23 rfl cv_X15_137 v20_0 (u_X12_get (lst_V 2 hL rfl he) hoe hk hr) rfl rfl (Nat.le_of_ble_eq_true rfl) (by decide) ⟨by omega, by omega⟩ ?_
    refine e_goto 30 dX15_get_26 rfl ?_
    exact e_iret dX15_get_30 rfl (by omega) (by omega) (⟨_, ⟨by rw [gtR, show (dIn D.length (nI i) && dIn 4 (nI k)) = true by rw [k1, k2]; rfl, if_pos rfl, ic, kc, hg, vl_nat ha hr.1 hr.2], rfl⟩, rfo_c (g := (tp, an, D, (fr, wv, hs), (v, RQ, RS, SC, er, mb), ck)) (th := 0) (F := F) (lt := lt) (lf := lf) (AN := AN) (PD := PD) (DL := DL) (X := []) hc (stars_ixn hL 14 rfl [0, 1, 2, 3, 4, 5, 6, 7, 8, 9, 10, 11, 12, 13] (by decide) rfl)⟩)
set_option maxRecDepth 20000 in
set_option maxHeartbeats 2000000 in
theorem k_X15_put {m th : Nat} {tp an fr : List Nat} {D : List DS} {wv : Nat → Nat} {hs : List (Nat × Nat)} {v : Nat → Nat} {RQ : List RQE} {RS : List RSE} {SC : List SCE} {er : List Nat} {mb : Nat → Bool} {ck : Nat} (hE : ∀ s ∈ D, okD s ∧ okE s) {x1 x2 x3 x4 : Int32} : CA mX15_put [.ref m, .int x1, .int x2, .int x3, .int x4] [rfo m (tp, an, D, (fr, wv, hs), (v, RQ, RS, SC, er, mb), ck) th] (fun r K => r = some (.int (bI (ptC (tp, an, D, (fr, wv, hs), (v, RQ, RS, SC, er, mb), ck) x1 x2 x3))) ∧ K = [rfo m (ptG (tp, an, D, (fr, wv, hs), (v, RQ, RS, SC, er, mb), ck) x1 x2 x3 x4) 0]) 3 100 0 0 := by
  refine CA.mk 0 (ls := [some (.ref m), some (.int x1), some (.int x2), some (.int x3), some (.int x4)]) rfl rfl (Nat.le_of_ble_eq_true rfl) rfl (fun h hL => ?_)
  obtain ⟨F, lt, lf, AN, PD, DL, hc, hL⟩ := rfo_o hL
  have hL : stars [pt m (.inr (13, moF F (mW (tp, an, D, (fr, wv, hs), (v, RQ, RS, SC, er, mb), ck) th AN.length lt lf) (decide (wv 5 ≠ 0)))), pt (F 1) (.inl (6, 6, .inr (.inr (.inr (.inr (adD DL)))))), lst rdve DL, iar (F 3) 300 AN, iar (F 5) 260 PD, rst (F 6) er (v 20) (mb 1) (mb 2), rrw (F 12) 16 3 (RQ.map rqE), rrw (F 13) 32 5 (RS.map rsE), rrw (F 14) 8 4 (SC.map scE), iar (F 21) 260 fr, iar (F 31) 64 (hs.map (·.1)), iar (F 32) 64 (hs.map (·.2)), iar (F 34) 400 tp, iar (F 36) 300 an] h := hL
  have ltp := (iar_V _ 12 hL rfl).le
  have lan := (iar_V _ 13 hL rfl).le
  have lfr := (iar_V _ 9 hL rfl).le
  have h6 : D.length ≤ 6 := hc.2.1
  have hl9 := rfC_len hc
  refine e_aload_n 1 dX15_put_0 rfl rfl ?_
  refine e_iconst 2 (v := (nI 0)) dX15_put_1 rfl (by decide) ?_
  refine p_put 5 hL 0 (fs' := moF F (upN (mW (tp, an, D, (fr, wv, hs), (v, RQ, RS, SC, er, mb), ck) th AN.length lt lf) 0 0) (decide (wv 5 ≠ 0))) (L' := [pt m (.inr (13, moF F (upN (mW (tp, an, D, (fr, wv, hs), (v, RQ, RS, SC, er, mb), ck) th AN.length lt lf) 0 0) (decide (wv 5 ≠ 0)))), pt (F 1) (.inl (6, 6, .inr (.inr (.inr (.inr (adD DL)))))), lst rdve DL, iar (F 3) 300 AN, iar (F 5) 260 PD, rst (F 6) er (v 20) (mb 1) (mb 2), rrw (F 12) 16 3 (RQ.map rqE), rrw (F 13) 32 5 (RS.map rsE), rrw (F 14) 8 4 (SC.map scE), iar (F 21) 260 fr, iar (F 31) 64 (hs.map (·.1)), iar (F 32) 64 (hs.map (·.2)), iar (F 34) 400 tp, iar (F 36) 300 an]) rfl rfl dX15_put_2 rfl fp_X15_73_13 (Or.inl rfl) (Nat.le_of_ble_eq_true rfl) rfl rfl rfl (fun h hL => ?_)
  refine e_aload_n 6 dX15_put_5 rfl rfl ?_
  refine e_iload_n 7 dX15_put_6 rfl rfl ?_
  refine e_iload_n 8 dX15_put_7 rfl rfl ?_
  refine e_iload_n 9 dX15_put_8 rfl rfl ?_
  refine u_callV 12 dX15_put_9 rfl cv_X15_444 (stars_at _ 0 hL rfl) (u_isPlace (g := (tp, an, D, (fr, wv, hs), (v, RQ, RS, SC, er, mb), ck)) (f6 := adD DL) (stars_at _ 0 hL rfl) rfl (show D.length < 2 ^ 30 by omega) h6 (stars_at _ 1 hL rfl) (rf_H hc hE 2 hL rfl)) rfl rfl (Nat.le_of_ble_eq_true rfl) (by decide) ⟨by omega, by omega⟩ ?_
  refine e_if_ne 17 15 dX15_put_12 rfl rfl (fun c12 => ?_) (fun c12 => ?_)
  · have k12 := jb_ne_t c12
    obtain ⟨k1, k2, k3⟩ := and3 (show (dIn D.length x1 && (dIn 4 x2 && plI (dF (gD (tp, an, D, (fr, wv, hs), (v, RQ, RS, SC, er, mb), ck) x1.toNatClampNeg) x2.toNatClampNeg) (dL (gD (tp, an, D, (fr, wv, hs), (v, RQ, RS, SC, er, mb), ck) x1.toNatClampNeg) x2.toNatClampNeg).length x3 1)) = true from k12)
    obtain ⟨i, rfl, hi⟩ := dIn_nat (by omega) k1
    have ic : (nI i).toNatClampNeg = i := nI_clamp (by omega)
    obtain ⟨⟨d, s⟩, he⟩ : ∃ e, DL[i]? = some e := ⟨_, List.getElem?_eq_getElem (show i < DL.length by omega)⟩
    have hsD : D[i]? = some s := rfC_at hc he hi
    have hg : gD (tp, an, D, (fr, wv, hs), (v, RQ, RS, SC, er, mb), ck) i = s := gD_of hsD
    obtain ⟨hok, hoe⟩ := hE s (List.mem_of_getElem? hsD)
    obtain ⟨k, rfl, hk⟩ := dIn_nat (by decide) k2
    have kc : (nI k).toNatClampNeg = k := nI_clamp (by omega)
    rw [ic, kc, hg] at k3
    obtain ⟨a, rfl, ha, hr⟩ := pl_nat k3
    have hL : stars [lst rdve DL, pt m (.inr (13, moF F (upN (mW (tp, an, D, (fr, wv, hs), (v, RQ, RS, SC, er, mb), ck) th AN.length lt lf) 0 0) (decide (wv 5 ≠ 0)))), pt (F 1) (.inl (6, 6, .inr (.inr (.inr (.inr (adD DL)))))), iar (F 3) 300 AN, iar (F 5) 260 PD, rst (F 6) er (v 20) (mb 1) (mb 2), rrw (F 12) 16 3 (RQ.map rqE), rrw (F 13) 32 5 (RS.map rsE), rrw (F 14) 8 4 (SC.map scE), iar (F 21) 260 fr, iar (F 31) 64 (hs.map (·.1)), iar (F 32) 64 (hs.map (·.2)), iar (F 34) 400 tp, iar (F 36) 300 an] h := stars_ixn hL 14 rfl [2, 0, 1, 3, 4, 5, 6, 7, 8, 9, 10, 11, 12, 13] (by decide) rfl
    have hL : stars [rdv d s, lst rdve (DL.eraseIdx i), pt m (.inr (13, moF F (upN (mW (tp, an, D, (fr, wv, hs), (v, RQ, RS, SC, er, mb), ck) th AN.length lt lf) 0 0) (decide (wv 5 ≠ 0)))), pt (F 1) (.inl (6, 6, .inr (.inr (.inr (.inr (adD DL)))))), iar (F 3) 300 AN, iar (F 5) 260 PD, rst (F 6) er (v 20) (mb 1) (mb 2), rrw (F 12) 16 3 (RQ.map rqE), rrw (F 13) 32 5 (RS.map rsE), rrw (F 14) 8 4 (SC.map scE), iar (F 21) 260 fr, iar (F 31) 64 (hs.map (·.1)), iar (F 32) 64 (hs.map (·.2)), iar (F 34) 400 tp, iar (F 36) 300 an] h := lst_o i he hL
    refine e_aload_n 18 dX15_put_17 rfl rfl ?_
    refine e_get 21 (v := (.ref (F 1))) dX15_put_18 rfl fl_X15_9_13 (stars_at _ 2 hL rfl) rfl ?_
    refine e_iload_n 22 dX15_put_21 rfl rfl ?_
    refine p_aaldD 23 hL 3 (v := d) (k := i) rfl (adD_at he) dX15_put_22 rfl (by omega) ?_
    refine e_iload_n 24 dX15_put_23 rfl rfl ?_
    refine e_iload_n 25 dX15_put_24 rfl rfl ?_
    refine e_iload_n 26 dX15_put_25 rfl rfl ?_
    refine e_iconst 27 (v := (nI 2)) dX15_put_26 rfl (by decide) ?_
    refine e_icmp_ge 37 30 dX15_put_27 rfl rfl (fun c27 => ?_) (fun c27 => ?_)
    · have k27 := j_ge_t (a := k) (b := 2) (by omega) (by omega) c27
      refine e_iload 39 dX15_put_37 rfl rfl ?_
      refine e_ldc 41 (v := (nI 65535)) dX15_put_39 rfl cn_X15_76 ?_
      refine e_iand 42 (v := (nI (mv 65535 x4))) dX15_put_41 rfl (mv_and (Or.inr rfl)) ?_
      refine p_callV 45 hL [0, 1, 2, 3, 4, 5, 6, 7, 8, 9, 10, 11, 12, 13, 14] 15 rfl (by decide) (L1 := [rdv d s]) (L2 := [lst rdve (DL.eraseIdx i), pt m (.inr (13, moF F (upN (mW (tp, an, D, (fr, wv, hs), (v, RQ, RS, SC, er, mb), ck) th AN.length lt lf) 0 0) (decide (wv 5 ≠ 0)))), pt (F 1) (.inl (6, 6, .inr (.inr (.inr (.inr (adD DL)))))), iar (F 3) 300 AN, iar (F 5) 260 PD, rst (F 6) er (v 20) (mb 1) (mb 2), rrw (F 12) 16 3 (RQ.map rqE), rrw (F 13) 32 5 (RS.map rsE), rrw (F 14) 8 4 (SC.map scE), iar (F 21) 260 fr, iar (F 31) 64 (hs.map (·.1)), iar (F 32) 64 (hs.map (·.2)), iar (F 34) 400 tp, iar (F 36) 300 an]) rfl rdv_O 0 rfl dX15_put_42 rfl cv_X15_164 (k_X12_put (s := s) (k := k) (a := a) (hoe.1 k hk) hk hr) rfl rfl (Nat.le_of_ble_eq_true rfl) ⟨by decide, by omega, by omega⟩ (fun r1 L1 h q hL => ?_)
      obtain ⟨rfl, rfl⟩ := q
      have hL : stars [rdv d (puD s k (a - dF s k) (mv 65535 x4)), lst rdve (DL.eraseIdx i), pt m (.inr (13, moF F (upN (mW (tp, an, D, (fr, wv, hs), (v, RQ, RS, SC, er, mb), ck) th AN.length lt lf) 0 0) (decide (wv 5 ≠ 0)))), pt (F 1) (.inl (6, 6, .inr (.inr (.inr (.inr (adD DL)))))), iar (F 3) 300 AN, iar (F 5) 260 PD, rst (F 6) er (v 20) (mb 1) (mb 2), rrw (F 12) 16 3 (RQ.map rqE), rrw (F 13) 32 5 (RS.map rsE), rrw (F 14) 8 4 (SC.map scE), iar (F 21) 260 fr, iar (F 31) 64 (hs.map (·.1)), iar (F 32) 64 (hs.map (·.2)), iar (F 34) 400 tp, iar (F 36) 300 an] h := hL
      have hL : stars [lst rdve (DL.set i (d, (puD s k (a - dF s k) (mv 65535 x4)))), pt m (.inr (13, moF F (upN (mW (tp, an, D, (fr, wv, hs), (v, RQ, RS, SC, er, mb), ck) th AN.length lt lf) 0 0) (decide (wv 5 ≠ 0)))), pt (F 1) (.inl (6, 6, .inr (.inr (.inr (.inr (adD DL)))))), iar (F 3) 300 AN, iar (F 5) 260 PD, rst (F 6) er (v 20) (mb 1) (mb 2), rrw (F 12) 16 3 (RQ.map rqE), rrw (F 13) 32 5 (RS.map rsE), rrw (F 14) 8 4 (SC.map scE), iar (F 21) 260 fr, iar (F 31) 64 (hs.map (·.1)), iar (F 32) 64 (hs.map (·.2)), iar (F 34) 400 tp, iar (F 36) 300 an] h := lst_c (f := rdve) (x := (d, (puD s k (a - dF s k) (mv 65535 x4)))) i (by omega) hL
      rw [adD_set he (puD s k (a - dF s k) (mv 65535 x4))] at hL
      have hL : stars [lst rdve (DL.set i (d, (puD s k (a - dF s k) (mv 65535 x4)))), pt m (.inr (13, moF F (upN (mW (tp, an, D, (fr, wv, hs), (v, RQ, RS, SC, er, mb), ck) th AN.length lt lf) 0 0) (decide (wv 5 ≠ 0)))), pt (F 1) (.inl (6, 6, .inr (.inr (.inr (.inr (adD (DL.set i (d, (puD s k (a - dF s k) (mv 65535 x4)))))))))), iar (F 3) 300 AN, iar (F 5) 260 PD, rst (F 6) er (v 20) (mb 1) (mb 2), rrw (F 12) 16 3 (RQ.map rqE), rrw (F 13) 32 5 (RS.map rsE), rrw (F 14) 8 4 (SC.map scE), iar (F 21) 260 fr, iar (F 31) 64 (hs.map (·.1)), iar (F 32) 64 (hs.map (·.2)), iar (F 34) 400 tp, iar (F 36) 300 an] h := hL
      have eo : moF F (upN (mW (tp, an, D, (fr, wv, hs), (v, RQ, RS, SC, er, mb), ck) th AN.length lt lf) 0 0) (decide (wv 5 ≠ 0)) = moF F (upN (upN (mW (tp, an, D, (fr, wv, hs), (v, RQ, RS, SC, er, mb), ck) th AN.length lt lf) 0 0) 2 (D.set i (puD s k (a - dF s k) (mv 65535 x4))).length) (decide (wv 5 ≠ 0)) := by rw [List.length_set]; rfl
      rw [eo] at hL
      have hL : stars [lst rdve (DL.set i (d, (puD s k (a - dF s k) (mv 65535 x4)))), pt m (.inr (13, moF F (upN (upN (mW (tp, an, D, (fr, wv, hs), (v, RQ, RS, SC, er, mb), ck) th AN.length lt lf) 0 0) 2 (D.set i (puD s k (a - dF s k) (mv 65535 x4))).length) (decide (wv 5 ≠ 0)))), pt (F 1) (.inl (6, 6, .inr (.inr (.inr (.inr (adD (DL.set i (d, (puD s k (a - dF s k) (mv 65535 x4)))))))))), iar (F 3) 300 AN, iar (F 5) 260 PD, rst (F 6) er (v 20) (mb 1) (mb 2), rrw (F 12) 16 3 (RQ.map rqE), rrw (F 13) 32 5 (RS.map rsE), rrw (F 14) 8 4 (SC.map scE), iar (F 21) 260 fr, iar (F 31) 64 (hs.map (·.1)), iar (F 32) 64 (hs.map (·.2)), iar (F 34) 400 tp, iar (F 36) 300 an] h := hL
      refine e_iconst 46 (v := (nI 1)) dX15_put_45 rfl (by decide) ?_
      exact e_zret dX15_put_46 rfl (Or.inr (by decide)) (by omega) (by omega) (⟨_, ⟨by rw [k12]; rfl, by rw [ptG, if_pos k12, ic, kc, hg, ptS_pu ha hr, show mkD k = 65535 from if_neg (show ¬ k < 2 by omega)]⟩, rfo_c (g := (tp, an, D.set i (puD s k (a - dF s k) (mv 65535 x4)), (fr, wv, hs), (v, RQ, RS, SC, er, mb), ck)) (th := 0) (F := F) (lt := lt) (lf := lf) (AN := AN) (PD := PD) (DL := (DL.set i (d, (puD s k (a - dF s k) (mv 65535 x4))))) (X := []) (rfC_set (s1 := (puD s k (a - dF s k) (mv 65535 x4))) hc he hi) (stars_ixn hL 14 rfl [1, 2, 0, 3, 4, 5, 6, 7, 8, 9, 10, 11, 12, 13] (by decide) rfl)⟩)
    · have k27 := j_ge_f (a := k) (b := 2) (by omega) (by omega) c27
      refine e_iload 32 dX15_put_30 rfl rfl ?_
      refine e_iconst 33 (v := (nI 1)) dX15_put_32 rfl (by decide) ?_
      refine e_iand 34 (v := (nI (mv 1 x4))) dX15_put_33 rfl (mv_and (Or.inl rfl)) ?_
      refine e_goto 42 dX15_put_34 rfl ?_
      refine p_callV 45 hL [0, 1, 2, 3, 4, 5, 6, 7, 8, 9, 10, 11, 12, 13, 14] 15 rfl (by decide) (L1 := [rdv d s]) (L2 := [lst rdve (DL.eraseIdx i), pt m (.inr (13, moF F (upN (mW (tp, an, D, (fr, wv, hs), (v, RQ, RS, SC, er, mb), ck) th AN.length lt lf) 0 0) (decide (wv 5 ≠ 0)))), pt (F 1) (.inl (6, 6, .inr (.inr (.inr (.inr (adD DL)))))), iar (F 3) 300 AN, iar (F 5) 260 PD, rst (F 6) er (v 20) (mb 1) (mb 2), rrw (F 12) 16 3 (RQ.map rqE), rrw (F 13) 32 5 (RS.map rsE), rrw (F 14) 8 4 (SC.map scE), iar (F 21) 260 fr, iar (F 31) 64 (hs.map (·.1)), iar (F 32) 64 (hs.map (·.2)), iar (F 34) 400 tp, iar (F 36) 300 an]) rfl rdv_O 0 rfl dX15_put_42 rfl cv_X15_164 (k_X12_put (s := s) (k := k) (a := a) (hoe.1 k hk) hk hr) rfl rfl (Nat.le_of_ble_eq_true rfl) ⟨by decide, by omega, by omega⟩ (fun r1 L1 h q hL => ?_)
      obtain ⟨rfl, rfl⟩ := q
      have hL : stars [rdv d (puD s k (a - dF s k) (mv 1 x4)), lst rdve (DL.eraseIdx i), pt m (.inr (13, moF F (upN (mW (tp, an, D, (fr, wv, hs), (v, RQ, RS, SC, er, mb), ck) th AN.length lt lf) 0 0) (decide (wv 5 ≠ 0)))), pt (F 1) (.inl (6, 6, .inr (.inr (.inr (.inr (adD DL)))))), iar (F 3) 300 AN, iar (F 5) 260 PD, rst (F 6) er (v 20) (mb 1) (mb 2), rrw (F 12) 16 3 (RQ.map rqE), rrw (F 13) 32 5 (RS.map rsE), rrw (F 14) 8 4 (SC.map scE), iar (F 21) 260 fr, iar (F 31) 64 (hs.map (·.1)), iar (F 32) 64 (hs.map (·.2)), iar (F 34) 400 tp, iar (F 36) 300 an] h := hL
      have hL : stars [lst rdve (DL.set i (d, (puD s k (a - dF s k) (mv 1 x4)))), pt m (.inr (13, moF F (upN (mW (tp, an, D, (fr, wv, hs), (v, RQ, RS, SC, er, mb), ck) th AN.length lt lf) 0 0) (decide (wv 5 ≠ 0)))), pt (F 1) (.inl (6, 6, .inr (.inr (.inr (.inr (adD DL)))))), iar (F 3) 300 AN, iar (F 5) 260 PD, rst (F 6) er (v 20) (mb 1) (mb 2), rrw (F 12) 16 3 (RQ.map rqE), rrw (F 13) 32 5 (RS.map rsE), rrw (F 14) 8 4 (SC.map scE), iar (F 21) 260 fr, iar (F 31) 64 (hs.map (·.1)), iar (F 32) 64 (hs.map (·.2)), iar (F 34) 400 tp, iar (F 36) 300 an] h := lst_c (f := rdve) (x := (d, (puD s k (a - dF s k) (mv 1 x4)))) i (by omega) hL
      rw [adD_set he (puD s k (a - dF s k) (mv 1 x4))] at hL
      have hL : stars [lst rdve (DL.set i (d, (puD s k (a - dF s k) (mv 1 x4)))), pt m (.inr (13, moF F (upN (mW (tp, an, D, (fr, wv, hs), (v, RQ, RS, SC, er, mb), ck) th AN.length lt lf) 0 0) (decide (wv 5 ≠ 0)))), pt (F 1) (.inl (6, 6, .inr (.inr (.inr (.inr (adD (DL.set i (d, (puD s k (a - dF s k) (mv 1 x4)))))))))), iar (F 3) 300 AN, iar (F 5) 260 PD, rst (F 6) er (v 20) (mb 1) (mb 2), rrw (F 12) 16 3 (RQ.map rqE), rrw (F 13) 32 5 (RS.map rsE), rrw (F 14) 8 4 (SC.map scE), iar (F 21) 260 fr, iar (F 31) 64 (hs.map (·.1)), iar (F 32) 64 (hs.map (·.2)), iar (F 34) 400 tp, iar (F 36) 300 an] h := hL
      have eo : moF F (upN (mW (tp, an, D, (fr, wv, hs), (v, RQ, RS, SC, er, mb), ck) th AN.length lt lf) 0 0) (decide (wv 5 ≠ 0)) = moF F (upN (upN (mW (tp, an, D, (fr, wv, hs), (v, RQ, RS, SC, er, mb), ck) th AN.length lt lf) 0 0) 2 (D.set i (puD s k (a - dF s k) (mv 1 x4))).length) (decide (wv 5 ≠ 0)) := by rw [List.length_set]; rfl
      rw [eo] at hL
      have hL : stars [lst rdve (DL.set i (d, (puD s k (a - dF s k) (mv 1 x4)))), pt m (.inr (13, moF F (upN (upN (mW (tp, an, D, (fr, wv, hs), (v, RQ, RS, SC, er, mb), ck) th AN.length lt lf) 0 0) 2 (D.set i (puD s k (a - dF s k) (mv 1 x4))).length) (decide (wv 5 ≠ 0)))), pt (F 1) (.inl (6, 6, .inr (.inr (.inr (.inr (adD (DL.set i (d, (puD s k (a - dF s k) (mv 1 x4)))))))))), iar (F 3) 300 AN, iar (F 5) 260 PD, rst (F 6) er (v 20) (mb 1) (mb 2), rrw (F 12) 16 3 (RQ.map rqE), rrw (F 13) 32 5 (RS.map rsE), rrw (F 14) 8 4 (SC.map scE), iar (F 21) 260 fr, iar (F 31) 64 (hs.map (·.1)), iar (F 32) 64 (hs.map (·.2)), iar (F 34) 400 tp, iar (F 36) 300 an] h := hL
      refine e_iconst 46 (v := (nI 1)) dX15_put_45 rfl (by decide) ?_
      exact e_zret dX15_put_46 rfl (Or.inr (by decide)) (by omega) (by omega) (⟨_, ⟨by rw [k12]; rfl, by rw [ptG, if_pos k12, ic, kc, hg, ptS_pu ha hr, show mkD k = 1 from if_pos (show k < 2 by omega)]⟩, rfo_c (g := (tp, an, D.set i (puD s k (a - dF s k) (mv 1 x4)), (fr, wv, hs), (v, RQ, RS, SC, er, mb), ck)) (th := 0) (F := F) (lt := lt) (lf := lf) (AN := AN) (PD := PD) (DL := (DL.set i (d, (puD s k (a - dF s k) (mv 1 x4))))) (X := []) (rfC_set (s1 := (puD s k (a - dF s k) (mv 1 x4))) hc he hi) (stars_ixn hL 14 rfl [1, 2, 0, 3, 4, 5, 6, 7, 8, 9, 10, 11, 12, 13] (by decide) rfl)⟩)
  · have k12 := jb_ne_f c12
    refine e_iconst 16 (v := (nI 0)) dX15_put_15 rfl (by decide) ?_
    exact e_zret dX15_put_16 rfl (Or.inl (by decide)) (by omega) (by omega) (⟨_, ⟨by rw [k12]; rfl, by rw [ptG, if_neg (by rw [k12]; decide)]⟩, rfo_c (g := (tp, an, D, (fr, wv, hs), (v, RQ, RS, SC, er, mb), ck)) (th := 0) (F := F) (lt := lt) (lf := lf) (AN := AN) (PD := PD) (DL := DL) (X := []) hc (stars_ixn hL 14 rfl [0, 1, 2, 3, 4, 5, 6, 7, 8, 9, 10, 11, 12, 13] (by decide) rfl)⟩)
set_option maxRecDepth 20000 in
set_option maxHeartbeats 2000000 in
theorem k_X15_record {m th : Nat} {tp an fr : List Nat} {D : List DS} {wv : Nat → Nat} {hs : List (Nat × Nat)} {v : Nat → Nat} {RQ : List RQE} {RS : List RSE} {SC : List SCE} {er : List Nat} {mb : Nat → Bool} {ck : Nat} (hE : ∀ s ∈ D, okD s ∧ okE s) {x1 x2 x3 : Int32} : CA mX15_record [.ref m, .int x1, .int x2, .int x3] [rfo m (tp, an, D, (fr, wv, hs), (v, RQ, RS, SC, er, mb), ck) th] (fun r K => r = some (.int (rcR (tp, an, D, (fr, wv, hs), (v, RQ, RS, SC, er, mb), ck) x1 x2 x3)) ∧ K = [rfo m (tp, an, D, (fr, wv, hs), (v, RQ, RS, SC, er, mb), ck) 0]) 2 60 0 0 := by
  refine CA.mk 1 (ls := [some (.ref m), some (.int x1), some (.int x2), some (.int x3), none]) rfl rfl (Nat.le_of_ble_eq_true rfl) rfl (fun h hL => ?_)
  obtain ⟨F, lt, lf, AN, PD, DL, hc, hL⟩ := rfo_o hL
  have hL : stars [pt m (.inr (13, moF F (mW (tp, an, D, (fr, wv, hs), (v, RQ, RS, SC, er, mb), ck) th AN.length lt lf) (decide (wv 5 ≠ 0)))), pt (F 1) (.inl (6, 6, .inr (.inr (.inr (.inr (adD DL)))))), lst rdve DL, iar (F 3) 300 AN, iar (F 5) 260 PD, rst (F 6) er (v 20) (mb 1) (mb 2), rrw (F 12) 16 3 (RQ.map rqE), rrw (F 13) 32 5 (RS.map rsE), rrw (F 14) 8 4 (SC.map scE), iar (F 21) 260 fr, iar (F 31) 64 (hs.map (·.1)), iar (F 32) 64 (hs.map (·.2)), iar (F 34) 400 tp, iar (F 36) 300 an] h := hL
  have ltp := (iar_V _ 12 hL rfl).le
  have lan := (iar_V _ 13 hL rfl).le
  have lfr := (iar_V _ 9 hL rfl).le
  have h6 : D.length ≤ 6 := hc.2.1
  have hl9 := rfC_len hc
  refine e_aload_n 1 dX15_record_0 rfl rfl ?_
  refine e_iconst 2 (v := (nI 0)) dX15_record_1 rfl (by decide) ?_
  refine p_put 5 hL 0 (fs' := moF F (upN (mW (tp, an, D, (fr, wv, hs), (v, RQ, RS, SC, er, mb), ck) th AN.length lt lf) 0 0) (decide (wv 5 ≠ 0))) (L' := [pt m (.inr (13, moF F (upN (mW (tp, an, D, (fr, wv, hs), (v, RQ, RS, SC, er, mb), ck) th AN.length lt lf) 0 0) (decide (wv 5 ≠ 0)))), pt (F 1) (.inl (6, 6, .inr (.inr (.inr (.inr (adD DL)))))), lst rdve DL, iar (F 3) 300 AN, iar (F 5) 260 PD, rst (F 6) er (v 20) (mb 1) (mb 2), rrw (F 12) 16 3 (RQ.map rqE), rrw (F 13) 32 5 (RS.map rsE), rrw (F 14) 8 4 (SC.map scE), iar (F 21) 260 fr, iar (F 31) 64 (hs.map (·.1)), iar (F 32) 64 (hs.map (·.2)), iar (F 34) 400 tp, iar (F 36) 300 an]) rfl rfl dX15_record_2 rfl fp_X15_73_13 (Or.inl rfl) (Nat.le_of_ble_eq_true rfl) rfl rfl rfl (fun h hL => ?_)
  refine e_aload_n 6 dX15_record_5 rfl rfl ?_
  refine e_iload_n 7 dX15_record_6 rfl rfl ?_
  refine u_callV 10 dX15_record_7 rfl cv_X15_435 (stars_at _ 0 hL rfl) (u_isDev (n := D.length) (stars_at _ 0 hL rfl) rfl (by omega)) rfl rfl (Nat.le_of_ble_eq_true rfl) (by decide) ⟨by omega, by omega⟩ ?_
  refine e_if_eq 26 13 dX15_record_10 rfl rfl (fun c10 => ?_) (fun c10 => ?_)
  · have k10 := jb_eq_t c10
    refine e_iconst 27 (v := (-1)) dX15_record_26 rfl (by decide) ?_
    refine e_istore 29 (ls' := [some (.ref m), some (.int x1), some (.int x2), some (.int x3), some (.int (-1))]) dX15_record_27 rfl (by decide) rfl ?_
    refine e_iload 31 dX15_record_29 rfl rfl ?_
    refine e_iconst 32 (v := (-1)) dX15_record_31 rfl (by decide) ?_
    refine e_icmp_eq 74 35 dX15_record_32 rfl rfl (fun c32 => ?_) (fun c32 => absurd c32 (fun z => z rfl))
    refine e_iconst 75 (v := (-1)) dX15_record_74 rfl (by decide) ?_
    exact e_iret dX15_record_75 rfl (by omega) (by omega) (⟨_, ⟨by rw [rcR, if_neg (by rw [k10]; decide)], rfl⟩, rfo_c (g := (tp, an, D, (fr, wv, hs), (v, RQ, RS, SC, er, mb), ck)) (th := 0) (F := F) (lt := lt) (lf := lf) (AN := AN) (PD := PD) (DL := DL) (X := []) hc (stars_ixn hL 14 rfl [0, 1, 2, 3, 4, 5, 6, 7, 8, 9, 10, 11, 12, 13] (by decide) rfl)⟩)
  · have k10 := jb_eq_f c10
    obtain ⟨i, rfl, hi⟩ := dIn_nat (by omega) k10
    have ic : (nI i).toNatClampNeg = i := nI_clamp (by omega)
    obtain ⟨⟨d, s⟩, he⟩ : ∃ e, DL[i]? = some e := ⟨_, List.getElem?_eq_getElem (show i < DL.length by omega)⟩
    have hsD : D[i]? = some s := rfC_at hc he hi
    have hg : gD (tp, an, D, (fr, wv, hs), (v, RQ, RS, SC, er, mb), ck) i = s := gD_of hsD
    obtain ⟨hok, hoe⟩ := hE s (List.mem_of_getElem? hsD)
    have lS := hoe.2.2.2.1.1
    have lm0 : (dS s 0).length ≤ 4 := lS.1
    have lr0 : ∀ j, (rwM (dS s 0) j).length ≤ 120 := fun j => rwM_len lS
    refine e_aload_n 14 dX15_record_13 rfl rfl ?_
    refine e_get 17 (v := (.ref (F 1))) dX15_record_14 rfl fl_X15_9_13 (stars_at _ 0 hL rfl) rfl ?_
    refine e_iload_n 18 dX15_record_17 rfl rfl ?_
    refine p_aaldD 19 hL 1 (v := d) (k := i) rfl (adD_at he) dX15_record_18 rfl (by omega) ?_
    obtain ⟨A18, v18_0, v18_1, v18_2, v18_3, v18_4, v18_5, v18_6, v18_7, v18_8, v18_9, v18_10, v18_11, v18_12, v18_13, v18_14, v18_15, v18_16, v18_17, v18_18, v18_19, v18_20, v18_21⟩ := lst_V 2 hL rfl he
    refine e_iload_n 20 dX15_record_19 rfl rfl ?_
    refine u_callV 23 dX15_record_20 rfl cv_X15_141 v18_0 (u_X12_fileOf (lst_V 2 hL rfl he) hoe) rfl rfl (Nat.le_of_ble_eq_true rfl) (by decide) ⟨by omega, by omega⟩ ?_
    refine e_goto 27 dX15_record_23 rfl ?_
    rcases hx : ixM (dS s 0) x2 with _ | j
    · refine e_istore 29 (ls' := [some (.ref m), some (.int (nI i)), some (.int x2), some (.int x3), some (.int (oI none))]) dX15_record_27 rfl (by decide) rfl ?_
      refine e_iload 31 dX15_record_29 rfl rfl ?_
      refine e_iconst 32 (v := (-1)) dX15_record_31 rfl (by decide) ?_
      refine e_icmp_eq 74 35 dX15_record_32 rfl rfl (fun c32 => ?_) (fun c32 => absurd c32 (fun z => z rfl))
      refine e_iconst 75 (v := (-1)) dX15_record_74 rfl (by decide) ?_
      exact e_iret dX15_record_75 rfl (by omega) (by omega) (⟨_, ⟨by rw [rcR, if_pos k10, ic, hg, hx], rfl⟩, rfo_c (g := (tp, an, D, (fr, wv, hs), (v, RQ, RS, SC, er, mb), ck)) (th := 0) (F := F) (lt := lt) (lf := lf) (AN := AN) (PD := PD) (DL := DL) (X := []) hc (stars_ixn hL 14 rfl [0, 1, 2, 3, 4, 5, 6, 7, 8, 9, 10, 11, 12, 13] (by decide) rfl)⟩)
    · have hj := ixM_lt hx
      refine e_istore 29 (ls' := [some (.ref m), some (.int (nI i)), some (.int x2), some (.int x3), some (.int (nI j))]) dX15_record_27 rfl (by decide) rfl ?_
      refine e_iload 31 dX15_record_29 rfl rfl ?_
      refine e_iconst 32 (v := (-1)) dX15_record_31 rfl (by decide) ?_
      refine e_icmp_eq 74 35 dX15_record_32 rfl rfl (fun c32 => absurd c32 (j_m1 (by omega))) (fun c32 => ?_)
      refine e_iload_n 36 dX15_record_35 rfl rfl ?_
      refine e_iconst 37 (v := (nI 0)) dX15_record_36 rfl (by decide) ?_
      refine e_aload_n 38 dX15_record_37 rfl rfl ?_
      refine e_get 41 (v := (.ref (F 1))) dX15_record_38 rfl fl_X15_9_13 (stars_at _ 0 hL rfl) rfl ?_
      refine e_iload_n 42 dX15_record_41 rfl rfl ?_
      refine p_aaldD 43 hL 1 (v := d) (k := i) rfl (adD_at he) dX15_record_42 rfl (by omega) ?_
      refine e_get 46 (v := (.ref (A18 18))) dX15_record_43 rfl fl_X15_144_10 v18_0 rfl ?_
      refine e_iload 48 dX15_record_46 rfl rfl ?_
      have b48 := lr0 j
      refine v_iald 49 (r := (szs (dS s 0))) v18_10 (k := j) (x := (rwM (dS s 0) j).length) dX15_record_48 rfl (by rw [szs_len]; omega) (by omega) szs_at ?_
      refine e_iconst 50 (v := (nI 1)) dX15_record_49 rfl (by decide) ?_
      refine e_isub 51 (v := ((nI ((rwM (dS s 0) j).length)) - (nI 1))) dX15_record_50 rfl rfl ?_
      refine u_callS 54 dX15_record_51 rfl cs_X15_81 u_inI rfl rfl (Nat.le_of_ble_eq_true rfl) (by decide) ⟨by omega, by omega⟩ ?_
      refine e_if_eq 74 57 dX15_record_54 rfl rfl (fun c54 => ?_) (fun c54 => ?_)
      · have k54 := jb_eq_t c54
        refine e_iconst 75 (v := (-1)) dX15_record_74 rfl (by decide) ?_
        exact e_iret dX15_record_75 rfl (by omega) (by omega) (⟨_, ⟨by rw [rcR, if_pos k10, ic, hg, hx]; show _ = some (Value.int (gI (rwM (dS s 0) j) x3)); rw [gI, if_pos (inS_f (by omega) k54)], rfl⟩, rfo_c (g := (tp, an, D, (fr, wv, hs), (v, RQ, RS, SC, er, mb), ck)) (th := 0) (F := F) (lt := lt) (lf := lf) (AN := AN) (PD := PD) (DL := DL) (X := []) hc (stars_ixn hL 14 rfl [0, 1, 2, 3, 4, 5, 6, 7, 8, 9, 10, 11, 12, 13] (by decide) rfl)⟩)
      · have k54 := jb_eq_f c54
        obtain ⟨n, rfl, nb⟩ := inS_nat (by omega) k54
        have nc : (nI n).toNatClampNeg = n := nI_clamp (by omega)
        refine e_aload_n 58 dX15_record_57 rfl rfl ?_
        refine e_get 61 (v := (.ref (F 1))) dX15_record_58 rfl fl_X15_9_13 (stars_at _ 0 hL rfl) rfl ?_
        refine e_iload_n 62 dX15_record_61 rfl rfl ?_
        refine p_aaldD 63 hL 1 (v := d) (k := i) rfl (adD_at he) dX15_record_62 rfl (by omega) ?_
        refine e_get 66 (v := (.ref (A18 19))) dX15_record_63 rfl fl_X15_218_10 v18_0 rfl ?_
        refine e_iload 68 dX15_record_66 rfl rfl ?_
        refine v_aald 69 v18_11 (k := j) dX15_record_68 rfl (by omega) (by omega) (fun b68 y68 => ?_)
        refine e_iload_n 70 dX15_record_69 rfl rfl ?_
        refine v_iald 71 (r := (rwM (dS s 0) j)) y68 (k := n) (x := ((rwM (dS s 0) j).getD n 0)) dX15_record_70 rfl (by omega) (by omega) rfl ?_
        refine e_goto 75 dX15_record_71 rfl ?_
        exact e_iret dX15_record_75 rfl (by omega) (by omega) (⟨_, ⟨by rw [rcR, if_pos k10, ic, hg, hx]; show _ = some (Value.int (gI (rwM (dS s 0) j) (nI n))); rw [gI_at (by omega) (by omega)], rfl⟩, rfo_c (g := (tp, an, D, (fr, wv, hs), (v, RQ, RS, SC, er, mb), ck)) (th := 0) (F := F) (lt := lt) (lf := lf) (AN := AN) (PD := PD) (DL := DL) (X := []) hc (stars_ixn hL 14 rfl [0, 1, 2, 3, 4, 5, 6, 7, 8, 9, 10, 11, 12, 13] (by decide) rfl)⟩)
set_option maxRecDepth 20000 in
set_option maxHeartbeats 2000000 in
theorem k_X15_queue {m th : Nat} {tp an fr : List Nat} {D : List DS} {wv : Nat → Nat} {hs : List (Nat × Nat)} {v : Nat → Nat} {RQ : List RQE} {RS : List RSE} {SC : List SCE} {er : List Nat} {mb : Nat → Bool} {ck : Nat} (hE : ∀ s ∈ D, okD s ∧ okE s) {x1 x2 : Int32} : CA mX15_queue [.ref m, .int x1, .int x2] [rfo m (tp, an, D, (fr, wv, hs), (v, RQ, RS, SC, er, mb), ck) th] (fun r K => r = some (.int (bI (quC (tp, an, D, (fr, wv, hs), (v, RQ, RS, SC, er, mb), ck) x1 x2))) ∧ K = [rfo m (quG (tp, an, D, (fr, wv, hs), (v, RQ, RS, SC, er, mb), ck) x1 x2) 0]) 2 60 0 0 := by
  refine CA.mk 1 (ls := [some (.ref m), some (.int x1), some (.int x2), none]) rfl rfl (Nat.le_of_ble_eq_true rfl) rfl (fun h hL => ?_)
  obtain ⟨F, lt, lf, AN, PD, DL, hc, hL⟩ := rfo_o hL
  have hL : stars [pt m (.inr (13, moF F (mW (tp, an, D, (fr, wv, hs), (v, RQ, RS, SC, er, mb), ck) th AN.length lt lf) (decide (wv 5 ≠ 0)))), pt (F 1) (.inl (6, 6, .inr (.inr (.inr (.inr (adD DL)))))), lst rdve DL, iar (F 3) 300 AN, iar (F 5) 260 PD, rst (F 6) er (v 20) (mb 1) (mb 2), rrw (F 12) 16 3 (RQ.map rqE), rrw (F 13) 32 5 (RS.map rsE), rrw (F 14) 8 4 (SC.map scE), iar (F 21) 260 fr, iar (F 31) 64 (hs.map (·.1)), iar (F 32) 64 (hs.map (·.2)), iar (F 34) 400 tp, iar (F 36) 300 an] h := hL
  have ltp := (iar_V _ 12 hL rfl).le
  have lan := (iar_V _ 13 hL rfl).le
  have lfr := (iar_V _ 9 hL rfl).le
  have h6 : D.length ≤ 6 := hc.2.1
  have hl9 := rfC_len hc
  refine e_aload_n 1 dX15_queue_0 rfl rfl ?_
  refine e_iconst 2 (v := (nI 0)) dX15_queue_1 rfl (by decide) ?_
  refine p_put 5 hL 0 (fs' := moF F (upN (mW (tp, an, D, (fr, wv, hs), (v, RQ, RS, SC, er, mb), ck) th AN.length lt lf) 0 0) (decide (wv 5 ≠ 0))) (L' := [pt m (.inr (13, moF F (upN (mW (tp, an, D, (fr, wv, hs), (v, RQ, RS, SC, er, mb), ck) th AN.length lt lf) 0 0) (decide (wv 5 ≠ 0)))), pt (F 1) (.inl (6, 6, .inr (.inr (.inr (.inr (adD DL)))))), lst rdve DL, iar (F 3) 300 AN, iar (F 5) 260 PD, rst (F 6) er (v 20) (mb 1) (mb 2), rrw (F 12) 16 3 (RQ.map rqE), rrw (F 13) 32 5 (RS.map rsE), rrw (F 14) 8 4 (SC.map scE), iar (F 21) 260 fr, iar (F 31) 64 (hs.map (·.1)), iar (F 32) 64 (hs.map (·.2)), iar (F 34) 400 tp, iar (F 36) 300 an]) rfl rfl dX15_queue_2 rfl fp_X15_73_13 (Or.inl rfl) (Nat.le_of_ble_eq_true rfl) rfl rfl rfl (fun h hL => ?_)
  refine e_aload_n 6 dX15_queue_5 rfl rfl ?_
  refine e_iload_n 7 dX15_queue_6 rfl rfl ?_
  refine u_callV 10 dX15_queue_7 rfl cv_X15_435 (stars_at _ 0 hL rfl) (u_isDev (n := D.length) (stars_at _ 0 hL rfl) rfl (by omega)) rfl rfl (Nat.le_of_ble_eq_true rfl) (by decide) ⟨by omega, by omega⟩ ?_
  refine e_if_eq 23 13 dX15_queue_10 rfl rfl (fun c10 => ?_) (fun c10 => ?_)
  · have k10 := jb_eq_t c10
    refine e_iconst 24 (v := (nI 0)) dX15_queue_23 rfl (by decide) ?_
    exact e_zret dX15_queue_24 rfl (Or.inl (by decide)) (by omega) (by omega) (⟨_, ⟨by rw [show quC (tp, an, D, (fr, wv, hs), (v, RQ, RS, SC, er, mb), ck) x1 x2 = false by show (dIn D.length _ && (inI _ _ _ && _)) = _; rw [k10]; rfl]; rfl, by rw [quG, if_neg (show ¬ quC (tp, an, D, (fr, wv, hs), (v, RQ, RS, SC, er, mb), ck) x1 x2 = true by rw [show quC (tp, an, D, (fr, wv, hs), (v, RQ, RS, SC, er, mb), ck) x1 x2 = false by show (dIn D.length _ && (inI _ _ _ && _)) = _; rw [k10]; rfl]; decide)]⟩, rfo_c (g := (tp, an, D, (fr, wv, hs), (v, RQ, RS, SC, er, mb), ck)) (th := 0) (F := F) (lt := lt) (lf := lf) (AN := AN) (PD := PD) (DL := DL) (X := []) hc (stars_ixn hL 14 rfl [0, 1, 2, 3, 4, 5, 6, 7, 8, 9, 10, 11, 12, 13] (by decide) rfl)⟩)
  · have k10 := jb_eq_f c10
    obtain ⟨i, rfl, hi⟩ := dIn_nat (by omega) k10
    have ic : (nI i).toNatClampNeg = i := nI_clamp (by omega)
    obtain ⟨⟨d, s⟩, he⟩ : ∃ e, DL[i]? = some e := ⟨_, List.getElem?_eq_getElem (show i < DL.length by omega)⟩
    have hsD : D[i]? = some s := rfC_at hc he hi
    have hg : gD (tp, an, D, (fr, wv, hs), (v, RQ, RS, SC, er, mb), ck) i = s := gD_of hsD
    obtain ⟨hok, hoe⟩ := hE s (List.mem_of_getElem? hsD)
    have lS := hoe.2.2.2.1.2.1
    have lm1 : (dS s 1).length ≤ 4 := lS.1
    refine e_iload_n 14 dX15_queue_13 rfl rfl ?_
    refine e_iconst 15 (v := (nI 0)) dX15_queue_14 rfl (by decide) ?_
    refine e_ldc 17 (v := (nI 65535)) dX15_queue_15 rfl cn_X15_76 ?_
    refine u_callS 20 dX15_queue_17 rfl cs_X15_81 u_inI rfl rfl (Nat.le_of_ble_eq_true rfl) (by decide) ⟨by omega, by omega⟩ ?_
    refine e_if_ne 25 23 dX15_queue_20 rfl rfl (fun c20 => ?_) (fun c20 => ?_)
    · have k20 := jb_ne_t c20
      obtain ⟨n, rfl, na, nb⟩ := inI_nat (by first | decide | omega) (by first | decide | omega) k20
      have nc : (nI n).toNatClampNeg = n := nI_clamp (by omega)
      refine e_aload_n 26 dX15_queue_25 rfl rfl ?_
      refine e_get 29 (v := (.ref (F 1))) dX15_queue_26 rfl fl_X15_9_13 (stars_at _ 0 hL rfl) rfl ?_
      refine e_iload_n 30 dX15_queue_29 rfl rfl ?_
      refine p_aaldD 31 hL 1 (v := d) (k := i) rfl (adD_at he) dX15_queue_30 rfl (by omega) ?_
      obtain ⟨A30, v30_0, v30_1, v30_2, v30_3, v30_4, v30_5, v30_6, v30_7, v30_8, v30_9, v30_10, v30_11, v30_12, v30_13, v30_14, v30_15, v30_16, v30_17, v30_18, v30_19, v30_20, v30_21⟩ := lst_V 2 hL rfl he
      refine e_astore_n 32 (ls' := [some (.ref m), some (.int (nI i)), some (.int (nI n)), some (.ref d)]) dX15_queue_31 rfl (by decide) rfl ?_
      refine e_aload_n 33 dX15_queue_32 rfl rfl ?_
      refine e_get 36 (v := (.int (nI (dS s 1).length))) dX15_queue_33 rfl fl_X15_468_10 v30_0 rfl ?_
      refine e_iconst 37 (v := (nI 4)) dX15_queue_36 rfl (by decide) ?_
      refine e_icmp_eq 49 40 dX15_queue_37 rfl rfl (fun c37 => ?_) (fun c37 => ?_)
      · have k37 := j_eq_t (a := (dS s 1).length) (b := 4) (by omega) (by omega) c37
        refine e_iconst 50 (v := (nI 0)) dX15_queue_49 rfl (by decide) ?_
        exact e_zret dX15_queue_50 rfl (Or.inl (by decide)) (by omega) (by omega) (⟨_, ⟨by rw [show quC (tp, an, D, (fr, wv, hs), (v, RQ, RS, SC, er, mb), ck) (nI i) (nI n) = false by show (dIn D.length (nI i) && (inI (nI n) (nI 0) (nI 65535) && ((ixM (dS (gD (tp, an, D, (fr, wv, hs), (v, RQ, RS, SC, er, mb), ck) (nI i).toNatClampNeg) 1) (nI n)).isNone && decide ((dS (gD (tp, an, D, (fr, wv, hs), (v, RQ, RS, SC, er, mb), ck) (nI i).toNatClampNeg) 1).length < 4)))) = _; rw [k10, k20, ic, hg]; rw [decide_eq_false (show ¬ (dS s 1).length < 4 by omega), Bool.and_false]; rfl]; rfl, by rw [quG, if_neg (show ¬ quC (tp, an, D, (fr, wv, hs), (v, RQ, RS, SC, er, mb), ck) (nI i) (nI n) = true by rw [show quC (tp, an, D, (fr, wv, hs), (v, RQ, RS, SC, er, mb), ck) (nI i) (nI n) = false by show (dIn D.length (nI i) && (inI (nI n) (nI 0) (nI 65535) && ((ixM (dS (gD (tp, an, D, (fr, wv, hs), (v, RQ, RS, SC, er, mb), ck) (nI i).toNatClampNeg) 1) (nI n)).isNone && decide ((dS (gD (tp, an, D, (fr, wv, hs), (v, RQ, RS, SC, er, mb), ck) (nI i).toNatClampNeg) 1).length < 4)))) = _; rw [k10, k20, ic, hg]; rw [decide_eq_false (show ¬ (dS s 1).length < 4 by omega), Bool.and_false]; rfl]; decide)]⟩, rfo_c (g := (tp, an, D, (fr, wv, hs), (v, RQ, RS, SC, er, mb), ck)) (th := 0) (F := F) (lt := lt) (lf := lf) (AN := AN) (PD := PD) (DL := DL) (X := []) hc (stars_ixn hL 14 rfl [0, 1, 2, 3, 4, 5, 6, 7, 8, 9, 10, 11, 12, 13] (by decide) rfl)⟩)
      · have k37 := j_eq_f (a := (dS s 1).length) (b := 4) (by omega) (by omega) c37
        refine e_aload_n 41 dX15_queue_40 rfl rfl ?_
        refine e_iload_n 42 dX15_queue_41 rfl rfl ?_
        refine u_callV 45 dX15_queue_42 rfl cv_X15_127 v30_0 (u_X12_queueOf (lst_V 2 hL rfl he) hoe) rfl rfl (Nat.le_of_ble_eq_true rfl) (by decide) ⟨by omega, by omega⟩ ?_
        refine e_iconst 46 (v := (-1)) dX15_queue_45 rfl (by decide) ?_
        refine e_icmp_eq 51 49 dX15_queue_46 rfl rfl (fun c46 => ?_) (fun c46 => ?_)
        · have hx : ixM (dS s 1) (nI n) = none := by cases z : ixM (dS s 1) (nI n) with | none => rfl | some j => exact absurd (show nI j = -1 by have y := c46; rw [z] at y; exact y) (j_m1 (by have := ixM_lt z; omega))
          have hL : stars [lst rdve DL, pt m (.inr (13, moF F (upN (mW (tp, an, D, (fr, wv, hs), (v, RQ, RS, SC, er, mb), ck) th AN.length lt lf) 0 0) (decide (wv 5 ≠ 0)))), pt (F 1) (.inl (6, 6, .inr (.inr (.inr (.inr (adD DL)))))), iar (F 3) 300 AN, iar (F 5) 260 PD, rst (F 6) er (v 20) (mb 1) (mb 2), rrw (F 12) 16 3 (RQ.map rqE), rrw (F 13) 32 5 (RS.map rsE), rrw (F 14) 8 4 (SC.map scE), iar (F 21) 260 fr, iar (F 31) 64 (hs.map (·.1)), iar (F 32) 64 (hs.map (·.2)), iar (F 34) 400 tp, iar (F 36) 300 an] h := stars_ixn hL 14 rfl [2, 0, 1, 3, 4, 5, 6, 7, 8, 9, 10, 11, 12, 13] (by decide) rfl
          have hL : stars [rdv d s, lst rdve (DL.eraseIdx i), pt m (.inr (13, moF F (upN (mW (tp, an, D, (fr, wv, hs), (v, RQ, RS, SC, er, mb), ck) th AN.length lt lf) 0 0) (decide (wv 5 ≠ 0)))), pt (F 1) (.inl (6, 6, .inr (.inr (.inr (.inr (adD DL)))))), iar (F 3) 300 AN, iar (F 5) 260 PD, rst (F 6) er (v 20) (mb 1) (mb 2), rrw (F 12) 16 3 (RQ.map rqE), rrw (F 13) 32 5 (RS.map rsE), rrw (F 14) 8 4 (SC.map scE), iar (F 21) 260 fr, iar (F 31) 64 (hs.map (·.1)), iar (F 32) 64 (hs.map (·.2)), iar (F 34) 400 tp, iar (F 36) 300 an] h := lst_o i he hL
          obtain ⟨A, hL⟩ := rdv_oq hL
          have hL : stars [pt d (.inr (10, rdF A s)), iar (A 21) 4 (kys (dS s 1)), iar (A 22) 4 (szs (dS s 1)), grd (A 23) 4 40 (rwM (dS s 1)), rRq A s, lst rdve (DL.eraseIdx i), pt m (.inr (13, moF F (upN (mW (tp, an, D, (fr, wv, hs), (v, RQ, RS, SC, er, mb), ck) th AN.length lt lf) 0 0) (decide (wv 5 ≠ 0)))), pt (F 1) (.inl (6, 6, .inr (.inr (.inr (.inr (adD DL)))))), iar (F 3) 300 AN, iar (F 5) 260 PD, rst (F 6) er (v 20) (mb 1) (mb 2), rrw (F 12) 16 3 (RQ.map rqE), rrw (F 13) 32 5 (RS.map rsE), rrw (F 14) 8 4 (SC.map scE), iar (F 21) 260 fr, iar (F 31) 64 (hs.map (·.1)), iar (F 32) 64 (hs.map (·.2)), iar (F 34) 400 tp, iar (F 36) 300 an] h := hL
          refine e_aload_n 52 dX15_queue_51 rfl rfl ?_
          refine e_get 55 (v := (.ref (A 21))) dX15_queue_52 rfl fl_X15_471_10 (stars_at _ 0 hL rfl) rfl ?_
          refine e_aload_n 56 dX15_queue_55 rfl rfl ?_
          refine e_get 59 (v := (.int (nI (dS s 1).length))) dX15_queue_56 rfl fl_X15_468_10 (stars_at _ 0 hL rfl) rfl ?_
          refine e_iload_n 60 dX15_queue_59 rfl rfl ?_
          refine p_iastR 61 hL 1 (r := (kys (dS s 1))) (r' := (kys (dS s 1 ++ [(n, [])]))) (k := (dS s 1).length) (v := n) (L' := [pt d (.inr (10, rdF A s)), iar (A 21) 4 (kys (dS s 1 ++ [(n, [])])), iar (A 22) 4 (szs (dS s 1)), grd (A 23) 4 40 (rwM (dS s 1)), rRq A s, lst rdve (DL.eraseIdx i), pt m (.inr (13, moF F (upN (mW (tp, an, D, (fr, wv, hs), (v, RQ, RS, SC, er, mb), ck) th AN.length lt lf) 0 0) (decide (wv 5 ≠ 0)))), pt (F 1) (.inl (6, 6, .inr (.inr (.inr (.inr (adD DL)))))), iar (F 3) 300 AN, iar (F 5) 260 PD, rst (F 6) er (v 20) (mb 1) (mb 2), rrw (F 12) 16 3 (RQ.map rqE), rrw (F 13) 32 5 (RS.map rsE), rrw (F 14) 8 4 (SC.map scE), iar (F 21) 260 fr, iar (F 31) 64 (hs.map (·.1)), iar (F 32) 64 (hs.map (·.2)), iar (F 34) 400 tp, iar (F 36) 300 an]) rfl dX15_queue_60 rfl (by omega) (by omega) (iw_kys (by omega)) rfl (fun h hL => ?_)
          refine e_aload_n 62 dX15_queue_61 rfl rfl ?_
          refine e_get 65 (v := (.ref (A 22))) dX15_queue_62 rfl fl_X15_131_10 (stars_at _ 0 hL rfl) rfl ?_
          refine e_aload_n 66 dX15_queue_65 rfl rfl ?_
          refine e_get 69 (v := (.int (nI (dS s 1).length))) dX15_queue_66 rfl fl_X15_468_10 (stars_at _ 0 hL rfl) rfl ?_
          refine e_iconst 70 (v := (nI 0)) dX15_queue_69 rfl (by decide) ?_
          refine p_iastR 71 hL 2 (r := (szs (dS s 1))) (r' := (szs (dS s 1 ++ [(n, [])]))) (k := (dS s 1).length) (v := 0) (L' := [pt d (.inr (10, rdF A s)), iar (A 21) 4 (kys (dS s 1 ++ [(n, [])])), iar (A 22) 4 (szs (dS s 1 ++ [(n, [])])), grd (A 23) 4 40 (rwM (dS s 1)), rRq A s, lst rdve (DL.eraseIdx i), pt m (.inr (13, moF F (upN (mW (tp, an, D, (fr, wv, hs), (v, RQ, RS, SC, er, mb), ck) th AN.length lt lf) 0 0) (decide (wv 5 ≠ 0)))), pt (F 1) (.inl (6, 6, .inr (.inr (.inr (.inr (adD DL)))))), iar (F 3) 300 AN, iar (F 5) 260 PD, rst (F 6) er (v 20) (mb 1) (mb 2), rrw (F 12) 16 3 (RQ.map rqE), rrw (F 13) 32 5 (RS.map rsE), rrw (F 14) 8 4 (SC.map scE), iar (F 21) 260 fr, iar (F 31) 64 (hs.map (·.1)), iar (F 32) 64 (hs.map (·.2)), iar (F 34) 400 tp, iar (F 36) 300 an]) rfl dX15_queue_70 rfl (by omega) (by omega) (iw_szs (by omega)) rfl (fun h hL => ?_)
          refine e_aload_n 72 dX15_queue_71 rfl rfl ?_
          refine e_dup 73 dX15_queue_72 rfl rfl ?_
          refine e_get 76 (v := (.int (nI (dS s 1).length))) dX15_queue_73 rfl fl_X15_468_10 (stars_at _ 0 hL rfl) rfl ?_
          refine e_iconst 77 (v := (nI 1)) dX15_queue_76 rfl (by decide) ?_
          refine e_iadd 78 (v := (nI ((dS s 1).length + 1))) dX15_queue_77 rfl (nI_add ((dS s 1).length) 1) ?_
          refine p_put 81 hL 0 (fs' := (rdF A s).set 20 (.int (nI ((dS s 1).length + 1)))) (L' := [pt d (.inr (10, (rdF A s).set 20 (.int (nI ((dS s 1).length + 1))))), iar (A 21) 4 (kys (dS s 1 ++ [(n, [])])), iar (A 22) 4 (szs (dS s 1 ++ [(n, [])])), grd (A 23) 4 40 (rwM (dS s 1)), rRq A s, lst rdve (DL.eraseIdx i), pt m (.inr (13, moF F (upN (mW (tp, an, D, (fr, wv, hs), (v, RQ, RS, SC, er, mb), ck) th AN.length lt lf) 0 0) (decide (wv 5 ≠ 0)))), pt (F 1) (.inl (6, 6, .inr (.inr (.inr (.inr (adD DL)))))), iar (F 3) 300 AN, iar (F 5) 260 PD, rst (F 6) er (v 20) (mb 1) (mb 2), rrw (F 12) 16 3 (RQ.map rqE), rrw (F 13) 32 5 (RS.map rsE), rrw (F 14) 8 4 (SC.map scE), iar (F 21) 260 fr, iar (F 31) 64 (hs.map (·.1)), iar (F 32) 64 (hs.map (·.2)), iar (F 34) 400 tp, iar (F 36) 300 an]) rfl rfl dX15_queue_78 rfl fp_X15_468_10 (Or.inl rfl) (Nat.le_of_ble_eq_true rfl) rfl rfl rfl (fun h hL => ?_)
          rw [← rwM_app0 (M := dS s 1) (k := n)] at hL
          have hL : stars [pt d (.inr (10, (rdF A s).set 20 (.int (nI ((dS s 1).length + 1))))), iar (A 21) 4 (kys (dS s 1 ++ [(n, [])])), iar (A 22) 4 (szs (dS s 1 ++ [(n, [])])), grd (A 23) 4 40 (rwM (dS s 1 ++ [(n, [])])), rRq A s, lst rdve (DL.eraseIdx i), pt m (.inr (13, moF F (upN (mW (tp, an, D, (fr, wv, hs), (v, RQ, RS, SC, er, mb), ck) th AN.length lt lf) 0 0) (decide (wv 5 ≠ 0)))), pt (F 1) (.inl (6, 6, .inr (.inr (.inr (.inr (adD DL)))))), iar (F 3) 300 AN, iar (F 5) 260 PD, rst (F 6) er (v 20) (mb 1) (mb 2), rrw (F 12) 16 3 (RQ.map rqE), rrw (F 13) 32 5 (RS.map rsE), rrw (F 14) 8 4 (SC.map scE), iar (F 21) 260 fr, iar (F 31) 64 (hs.map (·.1)), iar (F 32) 64 (hs.map (·.2)), iar (F 34) 400 tp, iar (F 36) 300 an] h := hL
          have hL : stars [rdv d (shS s 1 (dS s 1 ++ [(n, [])])), lst rdve (DL.eraseIdx i), pt m (.inr (13, moF F (upN (mW (tp, an, D, (fr, wv, hs), (v, RQ, RS, SC, er, mb), ck) th AN.length lt lf) 0 0) (decide (wv 5 ≠ 0)))), pt (F 1) (.inl (6, 6, .inr (.inr (.inr (.inr (adD DL)))))), iar (F 3) 300 AN, iar (F 5) 260 PD, rst (F 6) er (v 20) (mb 1) (mb 2), rrw (F 12) 16 3 (RQ.map rqE), rrw (F 13) 32 5 (RS.map rsE), rrw (F 14) 8 4 (SC.map scE), iar (F 21) 260 fr, iar (F 31) 64 (hs.map (·.1)), iar (F 32) 64 (hs.map (·.2)), iar (F 34) 400 tp, iar (F 36) 300 an] h := rdv_cq (s := s) (A := A) (fs' := (rdF A s).set 20 (.int (nI ((dS s 1).length + 1)))) (M := (dS s 1 ++ [(n, [])])) (by rw [show (dS s 1).length + 1 = (dS s 1 ++ [(n, [])]).length by rw [List.length_append]; rfl]; rfl) hL
          have hL : stars [lst rdve (DL.set i (d, (shS s 1 (dS s 1 ++ [(n, [])])))), pt m (.inr (13, moF F (upN (mW (tp, an, D, (fr, wv, hs), (v, RQ, RS, SC, er, mb), ck) th AN.length lt lf) 0 0) (decide (wv 5 ≠ 0)))), pt (F 1) (.inl (6, 6, .inr (.inr (.inr (.inr (adD DL)))))), iar (F 3) 300 AN, iar (F 5) 260 PD, rst (F 6) er (v 20) (mb 1) (mb 2), rrw (F 12) 16 3 (RQ.map rqE), rrw (F 13) 32 5 (RS.map rsE), rrw (F 14) 8 4 (SC.map scE), iar (F 21) 260 fr, iar (F 31) 64 (hs.map (·.1)), iar (F 32) 64 (hs.map (·.2)), iar (F 34) 400 tp, iar (F 36) 300 an] h := lst_c (f := rdve) (x := (d, (shS s 1 (dS s 1 ++ [(n, [])])))) i (by omega) hL
          rw [adD_set he (shS s 1 (dS s 1 ++ [(n, [])]))] at hL
          have hL : stars [lst rdve (DL.set i (d, (shS s 1 (dS s 1 ++ [(n, [])])))), pt m (.inr (13, moF F (upN (mW (tp, an, D, (fr, wv, hs), (v, RQ, RS, SC, er, mb), ck) th AN.length lt lf) 0 0) (decide (wv 5 ≠ 0)))), pt (F 1) (.inl (6, 6, .inr (.inr (.inr (.inr (adD (DL.set i (d, (shS s 1 (dS s 1 ++ [(n, [])])))))))))), iar (F 3) 300 AN, iar (F 5) 260 PD, rst (F 6) er (v 20) (mb 1) (mb 2), rrw (F 12) 16 3 (RQ.map rqE), rrw (F 13) 32 5 (RS.map rsE), rrw (F 14) 8 4 (SC.map scE), iar (F 21) 260 fr, iar (F 31) 64 (hs.map (·.1)), iar (F 32) 64 (hs.map (·.2)), iar (F 34) 400 tp, iar (F 36) 300 an] h := hL
          have eo : moF F (upN (mW (tp, an, D, (fr, wv, hs), (v, RQ, RS, SC, er, mb), ck) th AN.length lt lf) 0 0) (decide (wv 5 ≠ 0)) = moF F (upN (upN (mW (tp, an, D, (fr, wv, hs), (v, RQ, RS, SC, er, mb), ck) th AN.length lt lf) 0 0) 2 (D.set i (shS s 1 (dS s 1 ++ [(n, [])]))).length) (decide (wv 5 ≠ 0)) := by rw [List.length_set]; rfl
          rw [eo] at hL
          have hL : stars [lst rdve (DL.set i (d, (shS s 1 (dS s 1 ++ [(n, [])])))), pt m (.inr (13, moF F (upN (upN (mW (tp, an, D, (fr, wv, hs), (v, RQ, RS, SC, er, mb), ck) th AN.length lt lf) 0 0) 2 (D.set i (shS s 1 (dS s 1 ++ [(n, [])]))).length) (decide (wv 5 ≠ 0)))), pt (F 1) (.inl (6, 6, .inr (.inr (.inr (.inr (adD (DL.set i (d, (shS s 1 (dS s 1 ++ [(n, [])])))))))))), iar (F 3) 300 AN, iar (F 5) 260 PD, rst (F 6) er (v 20) (mb 1) (mb 2), rrw (F 12) 16 3 (RQ.map rqE), rrw (F 13) 32 5 (RS.map rsE), rrw (F 14) 8 4 (SC.map scE), iar (F 21) 260 fr, iar (F 31) 64 (hs.map (·.1)), iar (F 32) 64 (hs.map (·.2)), iar (F 34) 400 tp, iar (F 36) 300 an] h := hL
          refine e_iconst 82 (v := (nI 1)) dX15_queue_81 rfl (by decide) ?_
          exact e_zret dX15_queue_82 rfl (Or.inr (by decide)) (by omega) (by omega) (⟨_, ⟨by rw [show quC (tp, an, D, (fr, wv, hs), (v, RQ, RS, SC, er, mb), ck) (nI i) (nI n) = true by show (dIn D.length (nI i) && (inI (nI n) (nI 0) (nI 65535) && ((ixM (dS (gD (tp, an, D, (fr, wv, hs), (v, RQ, RS, SC, er, mb), ck) (nI i).toNatClampNeg) 1) (nI n)).isNone && decide ((dS (gD (tp, an, D, (fr, wv, hs), (v, RQ, RS, SC, er, mb), ck) (nI i).toNatClampNeg) 1).length < 4)))) = _; rw [k10, k20, ic, hg]; rw [hx, decide_eq_true (show (dS s 1).length < 4 by omega)]; rfl]; rfl, by rw [quG, if_pos (show quC (tp, an, D, (fr, wv, hs), (v, RQ, RS, SC, er, mb), ck) (nI i) (nI n) = true by show (dIn D.length (nI i) && (inI (nI n) (nI 0) (nI 65535) && ((ixM (dS (gD (tp, an, D, (fr, wv, hs), (v, RQ, RS, SC, er, mb), ck) (nI i).toNatClampNeg) 1) (nI n)).isNone && decide ((dS (gD (tp, an, D, (fr, wv, hs), (v, RQ, RS, SC, er, mb), ck) (nI i).toNatClampNeg) 1).length < 4)))) = _; rw [k10, k20, ic, hg]; rw [hx, decide_eq_true (show (dS s 1).length < 4 by omega)]; rfl), ic, nc, hg]⟩, rfo_c (g := (tp, an, D.set i (shS s 1 (dS s 1 ++ [(n, [])])), (fr, wv, hs), (v, RQ, RS, SC, er, mb), ck)) (th := 0) (F := F) (lt := lt) (lf := lf) (AN := AN) (PD := PD) (DL := (DL.set i (d, (shS s 1 (dS s 1 ++ [(n, [])]))))) (X := []) (rfC_set (s1 := (shS s 1 (dS s 1 ++ [(n, [])]))) hc he hi) (stars_ixn hL 14 rfl [1, 2, 0, 3, 4, 5, 6, 7, 8, 9, 10, 11, 12, 13] (by decide) rfl)⟩)
        · obtain ⟨j, hx⟩ : ∃ j, ixM (dS s 1) (nI n) = some j := by cases z : ixM (dS s 1) (nI n) with | none => exact absurd (by rw [z]; rfl) c46 | some j => exact ⟨j, rfl⟩
          refine e_iconst 50 (v := (nI 0)) dX15_queue_49 rfl (by decide) ?_
          exact e_zret dX15_queue_50 rfl (Or.inl (by decide)) (by omega) (by omega) (⟨_, ⟨by rw [show quC (tp, an, D, (fr, wv, hs), (v, RQ, RS, SC, er, mb), ck) (nI i) (nI n) = false by show (dIn D.length (nI i) && (inI (nI n) (nI 0) (nI 65535) && ((ixM (dS (gD (tp, an, D, (fr, wv, hs), (v, RQ, RS, SC, er, mb), ck) (nI i).toNatClampNeg) 1) (nI n)).isNone && decide ((dS (gD (tp, an, D, (fr, wv, hs), (v, RQ, RS, SC, er, mb), ck) (nI i).toNatClampNeg) 1).length < 4)))) = _; rw [k10, k20, ic, hg]; rw [hx]; rfl]; rfl, by rw [quG, if_neg (show ¬ quC (tp, an, D, (fr, wv, hs), (v, RQ, RS, SC, er, mb), ck) (nI i) (nI n) = true by rw [show quC (tp, an, D, (fr, wv, hs), (v, RQ, RS, SC, er, mb), ck) (nI i) (nI n) = false by show (dIn D.length (nI i) && (inI (nI n) (nI 0) (nI 65535) && ((ixM (dS (gD (tp, an, D, (fr, wv, hs), (v, RQ, RS, SC, er, mb), ck) (nI i).toNatClampNeg) 1) (nI n)).isNone && decide ((dS (gD (tp, an, D, (fr, wv, hs), (v, RQ, RS, SC, er, mb), ck) (nI i).toNatClampNeg) 1).length < 4)))) = _; rw [k10, k20, ic, hg]; rw [hx]; rfl]; decide)]⟩, rfo_c (g := (tp, an, D, (fr, wv, hs), (v, RQ, RS, SC, er, mb), ck)) (th := 0) (F := F) (lt := lt) (lf := lf) (AN := AN) (PD := PD) (DL := DL) (X := []) hc (stars_ixn hL 14 rfl [0, 1, 2, 3, 4, 5, 6, 7, 8, 9, 10, 11, 12, 13] (by decide) rfl)⟩)
    · have k20 := jb_ne_f c20
      refine e_iconst 24 (v := (nI 0)) dX15_queue_23 rfl (by decide) ?_
      exact e_zret dX15_queue_24 rfl (Or.inl (by decide)) (by omega) (by omega) (⟨_, ⟨by rw [show quC (tp, an, D, (fr, wv, hs), (v, RQ, RS, SC, er, mb), ck) (nI i) x2 = false by show (dIn D.length _ && (inI _ _ _ && _)) = _; rw [k10, k20]; rfl]; rfl, by rw [quG, if_neg (show ¬ quC (tp, an, D, (fr, wv, hs), (v, RQ, RS, SC, er, mb), ck) (nI i) x2 = true by rw [show quC (tp, an, D, (fr, wv, hs), (v, RQ, RS, SC, er, mb), ck) (nI i) x2 = false by show (dIn D.length _ && (inI _ _ _ && _)) = _; rw [k10, k20]; rfl]; decide)]⟩, rfo_c (g := (tp, an, D, (fr, wv, hs), (v, RQ, RS, SC, er, mb), ck)) (th := 0) (F := F) (lt := lt) (lf := lf) (AN := AN) (PD := PD) (DL := DL) (X := []) hc (stars_ixn hL 14 rfl [0, 1, 2, 3, 4, 5, 6, 7, 8, 9, 10, 11, 12, 13] (by decide) rfl)⟩)
set_option maxRecDepth 20000 in
set_option maxHeartbeats 2000000 in
theorem k_X15_push {m th : Nat} {tp an fr : List Nat} {D : List DS} {wv : Nat → Nat} {hs : List (Nat × Nat)} {v : Nat → Nat} {RQ : List RQE} {RS : List RSE} {SC : List SCE} {er : List Nat} {mb : Nat → Bool} {ck : Nat} (hE : ∀ s ∈ D, okD s ∧ okE s) {x1 x2 x3 : Int32} : CA mX15_push [.ref m, .int x1, .int x2, .int x3] [rfo m (tp, an, D, (fr, wv, hs), (v, RQ, RS, SC, er, mb), ck) th] (fun r K => r = some (.int (psR (tp, an, D, (fr, wv, hs), (v, RQ, RS, SC, er, mb), ck) x1 x2)) ∧ K = [rfo m (psG (tp, an, D, (fr, wv, hs), (v, RQ, RS, SC, er, mb), ck) x1 x2 x3) 0]) 2 60 0 0 := by
  refine CA.mk 1 (ls := [some (.ref m), some (.int x1), some (.int x2), some (.int x3), none]) rfl rfl (Nat.le_of_ble_eq_true rfl) rfl (fun h hL => ?_)
  obtain ⟨F, lt, lf, AN, PD, DL, hc, hL⟩ := rfo_o hL
  have hL : stars [pt m (.inr (13, moF F (mW (tp, an, D, (fr, wv, hs), (v, RQ, RS, SC, er, mb), ck) th AN.length lt lf) (decide (wv 5 ≠ 0)))), pt (F 1) (.inl (6, 6, .inr (.inr (.inr (.inr (adD DL)))))), lst rdve DL, iar (F 3) 300 AN, iar (F 5) 260 PD, rst (F 6) er (v 20) (mb 1) (mb 2), rrw (F 12) 16 3 (RQ.map rqE), rrw (F 13) 32 5 (RS.map rsE), rrw (F 14) 8 4 (SC.map scE), iar (F 21) 260 fr, iar (F 31) 64 (hs.map (·.1)), iar (F 32) 64 (hs.map (·.2)), iar (F 34) 400 tp, iar (F 36) 300 an] h := hL
  have ltp := (iar_V _ 12 hL rfl).le
  have lan := (iar_V _ 13 hL rfl).le
  have lfr := (iar_V _ 9 hL rfl).le
  have h6 : D.length ≤ 6 := hc.2.1
  have hl9 := rfC_len hc
  refine e_aload_n 1 dX15_push_0 rfl rfl ?_
  refine e_iconst 2 (v := (nI 0)) dX15_push_1 rfl (by decide) ?_
  refine p_put 5 hL 0 (fs' := moF F (upN (mW (tp, an, D, (fr, wv, hs), (v, RQ, RS, SC, er, mb), ck) th AN.length lt lf) 0 0) (decide (wv 5 ≠ 0))) (L' := [pt m (.inr (13, moF F (upN (mW (tp, an, D, (fr, wv, hs), (v, RQ, RS, SC, er, mb), ck) th AN.length lt lf) 0 0) (decide (wv 5 ≠ 0)))), pt (F 1) (.inl (6, 6, .inr (.inr (.inr (.inr (adD DL)))))), lst rdve DL, iar (F 3) 300 AN, iar (F 5) 260 PD, rst (F 6) er (v 20) (mb 1) (mb 2), rrw (F 12) 16 3 (RQ.map rqE), rrw (F 13) 32 5 (RS.map rsE), rrw (F 14) 8 4 (SC.map scE), iar (F 21) 260 fr, iar (F 31) 64 (hs.map (·.1)), iar (F 32) 64 (hs.map (·.2)), iar (F 34) 400 tp, iar (F 36) 300 an]) rfl rfl dX15_push_2 rfl fp_X15_73_13 (Or.inl rfl) (Nat.le_of_ble_eq_true rfl) rfl rfl rfl (fun h hL => ?_)
  refine e_aload_n 6 dX15_push_5 rfl rfl ?_
  refine e_iload_n 7 dX15_push_6 rfl rfl ?_
  refine u_callV 10 dX15_push_7 rfl cv_X15_435 (stars_at _ 0 hL rfl) (u_isDev (n := D.length) (stars_at _ 0 hL rfl) rfl (by omega)) rfl rfl (Nat.le_of_ble_eq_true rfl) (by decide) ⟨by omega, by omega⟩ ?_
  refine e_if_eq 26 13 dX15_push_10 rfl rfl (fun c10 => ?_) (fun c10 => ?_)
  · have k10 := jb_eq_t c10
    refine e_iconst 27 (v := (-1)) dX15_push_26 rfl (by decide) ?_
    refine e_istore 29 (ls' := [some (.ref m), some (.int x1), some (.int x2), some (.int x3), some (.int (-1))]) dX15_push_27 rfl (by decide) rfl ?_
    refine e_iload 31 dX15_push_29 rfl rfl ?_
    refine e_iconst 32 (v := (-1)) dX15_push_31 rfl (by decide) ?_
    refine e_icmp_eq 52 35 dX15_push_32 rfl rfl (fun c32 => ?_) (fun c32 => absurd c32 (fun z => z rfl))
    refine e_iconst 53 (v := (-1)) dX15_push_52 rfl (by decide) ?_
    exact e_iret dX15_push_53 rfl (by omega) (by omega) (by
          have hp : psI (tp, an, D, (fr, wv, hs), (v, RQ, RS, SC, er, mb), ck) x1 x2 = none := if_neg (by rw [k10]; decide)
          exact ⟨_, ⟨by rw [psR, hp], by rw [psG, hp]⟩, rfo_c (g := (tp, an, D, (fr, wv, hs), (v, RQ, RS, SC, er, mb), ck)) (th := 0) (F := F) (lt := lt) (lf := lf) (AN := AN) (PD := PD) (DL := DL) (X := []) hc (stars_ixn hL 14 rfl [0, 1, 2, 3, 4, 5, 6, 7, 8, 9, 10, 11, 12, 13] (by decide) rfl)⟩)
  · have k10 := jb_eq_f c10
    obtain ⟨i, rfl, hi⟩ := dIn_nat (by omega) k10
    have ic : (nI i).toNatClampNeg = i := nI_clamp (by omega)
    obtain ⟨⟨d, s⟩, he⟩ : ∃ e, DL[i]? = some e := ⟨_, List.getElem?_eq_getElem (show i < DL.length by omega)⟩
    have hsD : D[i]? = some s := rfC_at hc he hi
    have hg : gD (tp, an, D, (fr, wv, hs), (v, RQ, RS, SC, er, mb), ck) i = s := gD_of hsD
    obtain ⟨hok, hoe⟩ := hE s (List.mem_of_getElem? hsD)
    have lS := hoe.2.2.2.1.2.1
    have lm1 : (dS s 1).length ≤ 4 := lS.1
    have lr1 : ∀ j, (rwM (dS s 1) j).length ≤ 40 := fun j => rwM_len lS
    refine e_aload_n 14 dX15_push_13 rfl rfl ?_
    refine e_get 17 (v := (.ref (F 1))) dX15_push_14 rfl fl_X15_9_13 (stars_at _ 0 hL rfl) rfl ?_
    refine e_iload_n 18 dX15_push_17 rfl rfl ?_
    refine p_aaldD 19 hL 1 (v := d) (k := i) rfl (adD_at he) dX15_push_18 rfl (by omega) ?_
    obtain ⟨A18, v18_0, v18_1, v18_2, v18_3, v18_4, v18_5, v18_6, v18_7, v18_8, v18_9, v18_10, v18_11, v18_12, v18_13, v18_14, v18_15, v18_16, v18_17, v18_18, v18_19, v18_20, v18_21⟩ := lst_V 2 hL rfl he
    refine e_iload_n 20 dX15_push_19 rfl rfl ?_
    refine u_callV 23 dX15_push_20 rfl cv_X15_127 v18_0 (u_X12_queueOf (lst_V 2 hL rfl he) hoe) rfl rfl (Nat.le_of_ble_eq_true rfl) (by decide) ⟨by omega, by omega⟩ ?_
    refine e_goto 27 dX15_push_23 rfl ?_
    rcases hx : ixM (dS s 1) x2 with _ | j
    · refine e_istore 29 (ls' := [some (.ref m), some (.int (nI i)), some (.int x2), some (.int x3), some (.int (oI none))]) dX15_push_27 rfl (by decide) rfl ?_
      refine e_iload 31 dX15_push_29 rfl rfl ?_
      refine e_iconst 32 (v := (-1)) dX15_push_31 rfl (by decide) ?_
      refine e_icmp_eq 52 35 dX15_push_32 rfl rfl (fun c32 => ?_) (fun c32 => absurd c32 (fun z => z rfl))
      refine e_iconst 53 (v := (-1)) dX15_push_52 rfl (by decide) ?_
      exact e_iret dX15_push_53 rfl (by omega) (by omega) (by
          have hp : psI (tp, an, D, (fr, wv, hs), (v, RQ, RS, SC, er, mb), ck) (nI i) x2 = none := by rw [psI, if_pos k10, ic, hg, hx]
          exact ⟨_, ⟨by rw [psR, hp], by rw [psG, hp]⟩, rfo_c (g := (tp, an, D, (fr, wv, hs), (v, RQ, RS, SC, er, mb), ck)) (th := 0) (F := F) (lt := lt) (lf := lf) (AN := AN) (PD := PD) (DL := DL) (X := []) hc (stars_ixn hL 14 rfl [0, 1, 2, 3, 4, 5, 6, 7, 8, 9, 10, 11, 12, 13] (by decide) rfl)⟩)
    · have hj := ixM_lt hx
      refine e_istore 29 (ls' := [some (.ref m), some (.int (nI i)), some (.int x2), some (.int x3), some (.int (nI j))]) dX15_push_27 rfl (by decide) rfl ?_
      refine e_iload 31 dX15_push_29 rfl rfl ?_
      refine e_iconst 32 (v := (-1)) dX15_push_31 rfl (by decide) ?_
      refine e_icmp_eq 52 35 dX15_push_32 rfl rfl (fun c32 => absurd c32 (j_m1 (by omega))) (fun c32 => ?_)
      refine e_aload_n 36 dX15_push_35 rfl rfl ?_
      refine e_get 39 (v := (.ref (F 1))) dX15_push_36 rfl fl_X15_9_13 (stars_at _ 0 hL rfl) rfl ?_
      refine e_iload_n 40 dX15_push_39 rfl rfl ?_
      refine p_aaldD 41 hL 1 (v := d) (k := i) rfl (adD_at he) dX15_push_40 rfl (by omega) ?_
      refine e_get 44 (v := (.ref (A18 22))) dX15_push_41 rfl fl_X15_131_10 v18_0 rfl ?_
      refine e_iload 46 dX15_push_44 rfl rfl ?_
      have b46 := lr1 j
      refine v_iald 47 (r := (szs (dS s 1))) v18_13 (k := j) (x := (rwM (dS s 1) j).length) dX15_push_46 rfl (by rw [szs_len]; omega) (by omega) szs_at ?_
      refine e_bipush 49 (v := (nI 40)) dX15_push_47 rfl (by decide) ?_
      refine e_icmp_ne 54 52 dX15_push_49 rfl rfl (fun c49 => ?_) (fun c49 => ?_)
      · have k49 := j_ne_t (a := ((rwM (dS s 1) j).length)) (b := 40) (by omega) (by omega) c49
        have hL : stars [lst rdve DL, pt m (.inr (13, moF F (upN (mW (tp, an, D, (fr, wv, hs), (v, RQ, RS, SC, er, mb), ck) th AN.length lt lf) 0 0) (decide (wv 5 ≠ 0)))), pt (F 1) (.inl (6, 6, .inr (.inr (.inr (.inr (adD DL)))))), iar (F 3) 300 AN, iar (F 5) 260 PD, rst (F 6) er (v 20) (mb 1) (mb 2), rrw (F 12) 16 3 (RQ.map rqE), rrw (F 13) 32 5 (RS.map rsE), rrw (F 14) 8 4 (SC.map scE), iar (F 21) 260 fr, iar (F 31) 64 (hs.map (·.1)), iar (F 32) 64 (hs.map (·.2)), iar (F 34) 400 tp, iar (F 36) 300 an] h := stars_ixn hL 14 rfl [2, 0, 1, 3, 4, 5, 6, 7, 8, 9, 10, 11, 12, 13] (by decide) rfl
        have hL : stars [rdv d s, lst rdve (DL.eraseIdx i), pt m (.inr (13, moF F (upN (mW (tp, an, D, (fr, wv, hs), (v, RQ, RS, SC, er, mb), ck) th AN.length lt lf) 0 0) (decide (wv 5 ≠ 0)))), pt (F 1) (.inl (6, 6, .inr (.inr (.inr (.inr (adD DL)))))), iar (F 3) 300 AN, iar (F 5) 260 PD, rst (F 6) er (v 20) (mb 1) (mb 2), rrw (F 12) 16 3 (RQ.map rqE), rrw (F 13) 32 5 (RS.map rsE), rrw (F 14) 8 4 (SC.map scE), iar (F 21) 260 fr, iar (F 31) 64 (hs.map (·.1)), iar (F 32) 64 (hs.map (·.2)), iar (F 34) 400 tp, iar (F 36) 300 an] h := lst_o i he hL
        refine e_aload_n 55 dX15_push_54 rfl rfl ?_
        refine e_get 58 (v := (.ref (F 1))) dX15_push_55 rfl fl_X15_9_13 (stars_at _ 2 hL rfl) rfl ?_
        refine e_iload_n 59 dX15_push_58 rfl rfl ?_
        refine p_aaldD 60 hL 3 (v := d) (k := i) rfl (adD_at he) dX15_push_59 rfl (by omega) ?_
        refine e_iload 62 dX15_push_60 rfl rfl ?_
        refine e_iload_n 63 dX15_push_62 rfl rfl ?_
        refine e_ldc 65 (v := (nI 65535)) dX15_push_63 rfl cn_X15_76 ?_
        refine e_iand 66 (v := (nI (x3.toBitVec.toNat % 2 ^ 16))) dX15_push_65 rfl (pk_and x3 16 (by decide)) ?_
        refine p_callV 69 hL [0, 1, 2, 3, 4, 5, 6, 7, 8, 9, 10, 11, 12, 13, 14] 15 rfl (by decide) (L1 := [rdv d s]) (L2 := [lst rdve (DL.eraseIdx i), pt m (.inr (13, moF F (upN (mW (tp, an, D, (fr, wv, hs), (v, RQ, RS, SC, er, mb), ck) th AN.length lt lf) 0 0) (decide (wv 5 ≠ 0)))), pt (F 1) (.inl (6, 6, .inr (.inr (.inr (.inr (adD DL)))))), iar (F 3) 300 AN, iar (F 5) 260 PD, rst (F 6) er (v 20) (mb 1) (mb 2), rrw (F 12) 16 3 (RQ.map rqE), rrw (F 13) 32 5 (RS.map rsE), rrw (F 14) 8 4 (SC.map scE), iar (F 21) 260 fr, iar (F 31) 64 (hs.map (·.1)), iar (F 32) 64 (hs.map (·.2)), iar (F 34) 400 tp, iar (F 36) 300 an]) rfl rdv_O 0 rfl dX15_push_66 rfl cv_X15_285 (k_X12_comesInto (s := s) hoe hj) rfl rfl (Nat.le_of_ble_eq_true rfl) ⟨by decide, by omega, by omega⟩ (fun r1 L1 h q hL => ?_)
        obtain ⟨rfl, rfl⟩ := q
        have hL : stars [rdv d (quD s j (x3.toBitVec.toNat % 2 ^ 16)), lst rdve (DL.eraseIdx i), pt m (.inr (13, moF F (upN (mW (tp, an, D, (fr, wv, hs), (v, RQ, RS, SC, er, mb), ck) th AN.length lt lf) 0 0) (decide (wv 5 ≠ 0)))), pt (F 1) (.inl (6, 6, .inr (.inr (.inr (.inr (adD DL)))))), iar (F 3) 300 AN, iar (F 5) 260 PD, rst (F 6) er (v 20) (mb 1) (mb 2), rrw (F 12) 16 3 (RQ.map rqE), rrw (F 13) 32 5 (RS.map rsE), rrw (F 14) 8 4 (SC.map scE), iar (F 21) 260 fr, iar (F 31) 64 (hs.map (·.1)), iar (F 32) 64 (hs.map (·.2)), iar (F 34) 400 tp, iar (F 36) 300 an] h := hL
        have eS : (quD s j (x3.toBitVec.toNat % 2 ^ 16)) = (shS s 1 (stM (dS s 1) j (rwM (dS s 1) j ++ [(x3.toBitVec.toNat % 2 ^ 16)]))) := by unfold quD shS lat; rw [if_pos (show (rwM (dS s 1) j).length < 40 by omega)]
        rw [eS] at hL
        have hL : stars [rdv d (shS s 1 (stM (dS s 1) j (rwM (dS s 1) j ++ [(x3.toBitVec.toNat % 2 ^ 16)]))), lst rdve (DL.eraseIdx i), pt m (.inr (13, moF F (upN (mW (tp, an, D, (fr, wv, hs), (v, RQ, RS, SC, er, mb), ck) th AN.length lt lf) 0 0) (decide (wv 5 ≠ 0)))), pt (F 1) (.inl (6, 6, .inr (.inr (.inr (.inr (adD DL)))))), iar (F 3) 300 AN, iar (F 5) 260 PD, rst (F 6) er (v 20) (mb 1) (mb 2), rrw (F 12) 16 3 (RQ.map rqE), rrw (F 13) 32 5 (RS.map rsE), rrw (F 14) 8 4 (SC.map scE), iar (F 21) 260 fr, iar (F 31) 64 (hs.map (·.1)), iar (F 32) 64 (hs.map (·.2)), iar (F 34) 400 tp, iar (F 36) 300 an] h := hL
        have eR : rwM (dS (shS s 1 (stM (dS s 1) j (rwM (dS s 1) j ++ [(x3.toBitVec.toNat % 2 ^ 16)]))) 1) j = rwM (dS s 1) j ++ [(x3.toBitVec.toNat % 2 ^ 16)] := by show rwM (stM (dS s 1) j _) j = _; rw [rwM_st hj]; exact if_pos rfl
        refine e_aload_n 70 dX15_push_69 rfl rfl ?_
        refine e_get 73 (v := (.ref (F 1))) dX15_push_70 rfl fl_X15_9_13 (stars_at _ 2 hL rfl) rfl ?_
        refine e_iload_n 74 dX15_push_73 rfl rfl ?_
        refine p_aaldD 75 hL 3 (v := d) (k := i) rfl (adD_at he) dX15_push_74 rfl (by omega) ?_
        obtain ⟨A75, v75_0, v75_1, v75_2, v75_3, v75_4, v75_5, v75_6, v75_7, v75_8, v75_9, v75_10, v75_11, v75_12, v75_13, v75_14, v75_15, v75_16, v75_17, v75_18, v75_19, v75_20, v75_21⟩ := rdv_V _ 0 hL rfl
        refine e_get 78 (v := (.ref (A75 22))) dX15_push_75 rfl fl_X15_131_10 v75_0 rfl ?_
        refine e_iload 80 dX15_push_78 rfl rfl ?_
        refine v_iald 81 (r := (szs (dS (shS s 1 (stM (dS s 1) j (rwM (dS s 1) j ++ [(x3.toBitVec.toNat % 2 ^ 16)]))) 1))) v75_13 (k := j) (x := (rwM (dS (shS s 1 (stM (dS s 1) j (rwM (dS s 1) j ++ [(x3.toBitVec.toNat % 2 ^ 16)]))) 1) j).length) dX15_push_80 rfl (by rw [szs_len]; show j < (stM (dS s 1) j _).length; rw [stM_len]; exact hj) (by omega) szs_at ?_
        have hL : stars [lst rdve (DL.set i (d, (shS s 1 (stM (dS s 1) j (rwM (dS s 1) j ++ [(x3.toBitVec.toNat % 2 ^ 16)]))))), pt m (.inr (13, moF F (upN (mW (tp, an, D, (fr, wv, hs), (v, RQ, RS, SC, er, mb), ck) th AN.length lt lf) 0 0) (decide (wv 5 ≠ 0)))), pt (F 1) (.inl (6, 6, .inr (.inr (.inr (.inr (adD DL)))))), iar (F 3) 300 AN, iar (F 5) 260 PD, rst (F 6) er (v 20) (mb 1) (mb 2), rrw (F 12) 16 3 (RQ.map rqE), rrw (F 13) 32 5 (RS.map rsE), rrw (F 14) 8 4 (SC.map scE), iar (F 21) 260 fr, iar (F 31) 64 (hs.map (·.1)), iar (F 32) 64 (hs.map (·.2)), iar (F 34) 400 tp, iar (F 36) 300 an] h := lst_c (f := rdve) (x := (d, (shS s 1 (stM (dS s 1) j (rwM (dS s 1) j ++ [(x3.toBitVec.toNat % 2 ^ 16)]))))) i (by omega) hL
        rw [adD_set he (shS s 1 (stM (dS s 1) j (rwM (dS s 1) j ++ [(x3.toBitVec.toNat % 2 ^ 16)])))] at hL
        have hL : stars [lst rdve (DL.set i (d, (shS s 1 (stM (dS s 1) j (rwM (dS s 1) j ++ [(x3.toBitVec.toNat % 2 ^ 16)]))))), pt m (.inr (13, moF F (upN (mW (tp, an, D, (fr, wv, hs), (v, RQ, RS, SC, er, mb), ck) th AN.length lt lf) 0 0) (decide (wv 5 ≠ 0)))), pt (F 1) (.inl (6, 6, .inr (.inr (.inr (.inr (adD (DL.set i (d, (shS s 1 (stM (dS s 1) j (rwM (dS s 1) j ++ [(x3.toBitVec.toNat % 2 ^ 16)]))))))))))), iar (F 3) 300 AN, iar (F 5) 260 PD, rst (F 6) er (v 20) (mb 1) (mb 2), rrw (F 12) 16 3 (RQ.map rqE), rrw (F 13) 32 5 (RS.map rsE), rrw (F 14) 8 4 (SC.map scE), iar (F 21) 260 fr, iar (F 31) 64 (hs.map (·.1)), iar (F 32) 64 (hs.map (·.2)), iar (F 34) 400 tp, iar (F 36) 300 an] h := hL
        have eo : moF F (upN (mW (tp, an, D, (fr, wv, hs), (v, RQ, RS, SC, er, mb), ck) th AN.length lt lf) 0 0) (decide (wv 5 ≠ 0)) = moF F (upN (upN (mW (tp, an, D, (fr, wv, hs), (v, RQ, RS, SC, er, mb), ck) th AN.length lt lf) 0 0) 2 (D.set i (shS s 1 (stM (dS s 1) j (rwM (dS s 1) j ++ [(x3.toBitVec.toNat % 2 ^ 16)])))).length) (decide (wv 5 ≠ 0)) := by rw [List.length_set]; rfl
        rw [eo] at hL
        have hL : stars [lst rdve (DL.set i (d, (shS s 1 (stM (dS s 1) j (rwM (dS s 1) j ++ [(x3.toBitVec.toNat % 2 ^ 16)]))))), pt m (.inr (13, moF F (upN (upN (mW (tp, an, D, (fr, wv, hs), (v, RQ, RS, SC, er, mb), ck) th AN.length lt lf) 0 0) 2 (D.set i (shS s 1 (stM (dS s 1) j (rwM (dS s 1) j ++ [(x3.toBitVec.toNat % 2 ^ 16)])))).length) (decide (wv 5 ≠ 0)))), pt (F 1) (.inl (6, 6, .inr (.inr (.inr (.inr (adD (DL.set i (d, (shS s 1 (stM (dS s 1) j (rwM (dS s 1) j ++ [(x3.toBitVec.toNat % 2 ^ 16)]))))))))))), iar (F 3) 300 AN, iar (F 5) 260 PD, rst (F 6) er (v 20) (mb 1) (mb 2), rrw (F 12) 16 3 (RQ.map rqE), rrw (F 13) 32 5 (RS.map rsE), rrw (F 14) 8 4 (SC.map scE), iar (F 21) 260 fr, iar (F 31) 64 (hs.map (·.1)), iar (F 32) 64 (hs.map (·.2)), iar (F 34) 400 tp, iar (F 36) 300 an] h := hL
        exact e_iret dX15_push_81 rfl (by omega) (by omega) (by
          have hp : psI (tp, an, D, (fr, wv, hs), (v, RQ, RS, SC, er, mb), ck) (nI i) x2 = some j := by rw [psI, if_pos k10, ic, hg, hx]; exact if_pos (show (rwM (dS s 1) j).length < 40 by omega)
          exact ⟨_, ⟨by rw [psR, hp, ic, hg, eR, List.length_append]; rfl, by rw [psG, hp, ic, hg]⟩, rfo_c (g := (tp, an, D.set i (shS s 1 (stM (dS s 1) j (rwM (dS s 1) j ++ [(x3.toBitVec.toNat % 2 ^ 16)]))), (fr, wv, hs), (v, RQ, RS, SC, er, mb), ck)) (th := 0) (F := F) (lt := lt) (lf := lf) (AN := AN) (PD := PD) (DL := (DL.set i (d, (shS s 1 (stM (dS s 1) j (rwM (dS s 1) j ++ [(x3.toBitVec.toNat % 2 ^ 16)])))))) (X := []) (rfC_set (s1 := (shS s 1 (stM (dS s 1) j (rwM (dS s 1) j ++ [(x3.toBitVec.toNat % 2 ^ 16)])))) hc he hi) (stars_ixn hL 14 rfl [1, 2, 0, 3, 4, 5, 6, 7, 8, 9, 10, 11, 12, 13] (by decide) rfl)⟩)
      · have k49 := j_ne_f (a := ((rwM (dS s 1) j).length)) (b := 40) (by omega) (by omega) c49
        refine e_iconst 53 (v := (-1)) dX15_push_52 rfl (by decide) ?_
        exact e_iret dX15_push_53 rfl (by omega) (by omega) (by
          have hp : psI (tp, an, D, (fr, wv, hs), (v, RQ, RS, SC, er, mb), ck) (nI i) x2 = none := by rw [psI, if_pos k10, ic, hg, hx]; exact if_neg (show ¬ (rwM (dS s 1) j).length < 40 by omega)
          exact ⟨_, ⟨by rw [psR, hp], by rw [psG, hp]⟩, rfo_c (g := (tp, an, D, (fr, wv, hs), (v, RQ, RS, SC, er, mb), ck)) (th := 0) (F := F) (lt := lt) (lf := lf) (AN := AN) (PD := PD) (DL := DL) (X := []) hc (stars_ixn hL 14 rfl [0, 1, 2, 3, 4, 5, 6, 7, 8, 9, 10, 11, 12, 13] (by decide) rfl)⟩)
