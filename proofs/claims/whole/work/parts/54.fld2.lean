/-! FieldLine: what speaks of devices -/
set_option maxRecDepth 20000 in
set_option maxHeartbeats 2000000 in
theorem k_deviceOf0 {o ck : Nat} {F : Nat → Nat} {DL : List (Nat × DS)} {x : Int32} (hd : dIn DL.length x = false) : CA mX11_deviceOf [.ref o, .int x] [pt o (.inr (9, [.ref (F 0), .ref (F 1), .ref (F 2), .ref (F 3), .ref (F 4), .int (nI DL.length), .ref (F 6), .ref (F 7), .int (nI ck)])), pt (F 4) (.inl (2, 6, .inr (.inr (.inr (.inr (adD DL))))))] (fun r K => r = some .null ∧ K = [pt o (.inr (9, [.ref (F 0), .ref (F 1), .ref (F 2), .ref (F 3), .ref (F 4), .int (nI DL.length), .ref (F 6), .ref (F 7), .int (nI ck)])), pt (F 4) (.inl (2, 6, .inr (.inr (.inr (.inr (adD DL))))))]) 0 0 0 0 := by
  refine CA.mk 0 (ls := [some (.ref o), some (.int x)]) rfl rfl (Nat.le_of_ble_eq_true rfl) rfl (fun h hL => ?_)
  rcases dIn_f hd with hd | hd
  · refine e_iload_n 1 dX11_deviceOf_0 rfl rfl ?_
    refine e_if_lt 30 4 dX11_deviceOf_1 rfl rfl (fun c1 => ?_) (fun c1 => absurd c1 (fun z => z hd))
    refine e_null 31 dX11_deviceOf_30 rfl ?_
    exact e_aret dX11_deviceOf_31 rfl (Or.inl rfl) (by omega) (by omega) (⟨_, ⟨rfl, rfl⟩, hL⟩)
  · refine e_iload_n 1 dX11_deviceOf_0 rfl rfl ?_
    refine e_if_lt 30 4 dX11_deviceOf_1 rfl rfl (fun c1 => ?_) (fun c1 => ?_)
    · refine e_null 31 dX11_deviceOf_30 rfl ?_
      exact e_aret dX11_deviceOf_31 rfl (Or.inl rfl) (by omega) (by omega) (⟨_, ⟨rfl, rfl⟩, hL⟩)
    · refine e_iload_n 5 dX11_deviceOf_4 rfl rfl ?_
      refine e_aload_n 6 dX11_deviceOf_5 rfl rfl ?_
      refine e_get 9 dX11_deviceOf_6 rfl fl_X11_33_9 (stars_at _ 0 hL rfl) rfl ?_
      refine e_icmp_ge 30 12 dX11_deviceOf_9 rfl rfl (fun c9 => ?_) (fun c9 => absurd c9 (fun z => z hd))
      refine e_null 31 dX11_deviceOf_30 rfl ?_
      exact e_aret dX11_deviceOf_31 rfl (Or.inl rfl) (by omega) (by omega) (⟨_, ⟨rfl, rfl⟩, hL⟩)
set_option maxRecDepth 20000 in
set_option maxHeartbeats 2000000 in
theorem k_deviceOf1 {o ck i : Nat} {F : Nat → Nat} {DL : List (Nat × DS)} {e : Nat × DS} (hl6 : DL.length ≤ 6) (he : DL[i]? = some e) : CA mX11_deviceOf [.ref o, .int (nI i)] [pt o (.inr (9, [.ref (F 0), .ref (F 1), .ref (F 2), .ref (F 3), .ref (F 4), .int (nI DL.length), .ref (F 6), .ref (F 7), .int (nI ck)])), pt (F 4) (.inl (2, 6, .inr (.inr (.inr (.inr (adD DL))))))] (fun r K => r = some (.ref e.1) ∧ K = [pt o (.inr (9, [.ref (F 0), .ref (F 1), .ref (F 2), .ref (F 3), .ref (F 4), .int (nI DL.length), .ref (F 6), .ref (F 7), .int (nI ck)])), pt (F 4) (.inl (2, 6, .inr (.inr (.inr (.inr (adD DL))))))]) 0 0 0 0 := by
  refine CA.mk 0 (ls := [some (.ref o), some (.int (nI i))]) rfl rfl (Nat.le_of_ble_eq_true rfl) rfl (fun h hL => ?_)
  have hi := (List.getElem?_eq_some_iff.mp he).1
  refine e_iload_n 1 dX11_deviceOf_0 rfl rfl ?_
  refine e_if_lt 30 4 dX11_deviceOf_1 rfl rfl (fun c1 => absurd c1 (nI_pos (by omega))) (fun c1 => ?_)
  refine e_iload_n 5 dX11_deviceOf_4 rfl rfl ?_
  refine e_aload_n 6 dX11_deviceOf_5 rfl rfl ?_
  refine e_get 9 dX11_deviceOf_6 rfl fl_X11_33_9 (stars_at _ 0 hL rfl) rfl ?_
  refine e_icmp_ge 30 12 dX11_deviceOf_9 rfl rfl (fun c9 => absurd c9 (fun z => absurd (j_ge_t (by omega) (by omega) z) (by omega))) (fun c9 => ?_)
  refine e_iload_n 13 dX11_deviceOf_12 rfl rfl ?_
  refine e_aload_n 14 dX11_deviceOf_13 rfl rfl ?_
  refine e_get 17 dX11_deviceOf_14 rfl fl_X11_29_9 (stars_at _ 0 hL rfl) rfl ?_
  refine e_alen 18 (v := (nI 6)) dX11_deviceOf_17 rfl (stars_at _ 1 hL rfl) rfl rfl ?_
  refine e_icmp_ge 30 21 dX11_deviceOf_18 rfl rfl (fun c18 => absurd c18 (fun z => absurd (j_ge_t (by omega) (by omega) z) (by omega))) (fun c18 => ?_)
  refine e_aload_n 22 dX11_deviceOf_21 rfl rfl ?_
  refine e_get 25 dX11_deviceOf_22 rfl fl_X11_29_9 (stars_at _ 0 hL rfl) rfl ?_
  refine e_iload_n 26 dX11_deviceOf_25 rfl rfl ?_
  refine e_aald 27 (v := .ref e.1) dX11_deviceOf_26 rfl (stars_at _ 1 hL rfl) rfl (Or.inl ⟨_, rfl⟩) (vp_in_nI (by omega) (by omega)) (by rw [nI_clamp (by omega), adD_at he]; rfl) ?_
  refine e_goto 31 dX11_deviceOf_27 rfl ?_
  exact e_aret dX11_deviceOf_31 rfl (Or.inr ⟨_, rfl⟩) (by omega) (by omega) (⟨_, ⟨rfl, rfl⟩, hL⟩)
def buC (g : GS) (d n : Int32) : Bool := dIn g.2.2.1.length d && inI n (nI 0) (nI 9)
def buG (g : GS) (d n : Int32) : GS := if buC g d n then stD g d.toNatClampNeg (upN (gD g d.toNatClampNeg).1 18 n.toNatClampNeg, (gD g d.toNatClampNeg).2) else g
set_option maxRecDepth 20000 in
set_option maxHeartbeats 2000000 in
theorem k_X11_busy {o : Nat} {tp an fr : List Nat} {D : List DS} {wv : Nat → Nat} {hs : List (Nat × Nat)} {M : MS} {ck : Nat} {z : HD} {x1 x2 : Int32} (hok : ∀ s ∈ D, okD s) : CA mX11_busy [.ref o, .int x1, .int x2] [flo o (tp, an, D, (fr, wv, hs), M, ck) z] (fun r K => r = some (.int (bI (buC (tp, an, D, (fr, wv, hs), M, ck) x1 x2))) ∧ K = [flo o (buG (tp, an, D, (fr, wv, hs), M, ck) x1 x2) z]) 1 30 0 0 := by
  refine CA.mk 1 (ls := [some (.ref o), some (.int x1), some (.int x2), none]) rfl rfl (Nat.le_of_ble_eq_true rfl) rfl (fun h hL => ?_)
  obtain ⟨F, DL, hr, cm, hD, hl6, hL⟩ := flo_o hL
  have hL : stars [pt o (.inr (9, [.ref (F 0), .ref (F 1), .ref (F 2), .ref (F 3), .ref (F 4), .int (nI DL.length), .ref (F 6), .ref (F 7), .int (nI ck)])), row (F 0) 400 tp, row (F 1) 253 an, row (F 2) 253 hr, row (F 3) 253 cm, pt (F 4) (.inl (2, 6, .inr (.inr (.inr (.inr (adD DL)))))), wire (F 6) fr wv hs, mst (F 7) M z, lst dve DL] h := hL
  have hDl : D.length = DL.length := gD_len hD
  refine e_aload_n 1 dX11_busy_0 rfl rfl ?_
  refine e_iload_n 2 dX11_busy_1 rfl rfl ?_
  rcases dv_ix x1 DL.length (by omega) with hd | ⟨i, hi, hxi, hd⟩
  · refine p_callV 5 hL [0, 5, 1, 2, 3, 4, 6, 7, 8] 9 rfl (by decide) (L1 := [pt o (.inr (9, [.ref (F 0), .ref (F 1), .ref (F 2), .ref (F 3), .ref (F 4), .int (nI DL.length), .ref (F 6), .ref (F 7), .int (nI ck)])), pt (F 4) (.inl (2, 6, .inr (.inr (.inr (.inr (adD DL))))))]) (L2 := [row (F 0) 400 tp, row (F 1) 253 an, row (F 2) 253 hr, row (F 3) 253 cm, wire (F 6) fr wv hs, mst (F 7) M z, lst dve DL]) rfl isO_pt 0 rfl dX11_busy_2 rfl cv_X11_82 (k_deviceOf0 hd) rfl rfl (Nat.le_of_ble_eq_true rfl) ⟨by decide, by omega, by omega⟩ (fun r1 L1 h q hL => ?_)
    obtain ⟨rfl, rfl⟩ := q
    have hL : stars [pt o (.inr (9, [.ref (F 0), .ref (F 1), .ref (F 2), .ref (F 3), .ref (F 4), .int (nI DL.length), .ref (F 6), .ref (F 7), .int (nI ck)])), pt (F 4) (.inl (2, 6, .inr (.inr (.inr (.inr (adD DL)))))), row (F 0) 400 tp, row (F 1) 253 an, row (F 2) 253 hr, row (F 3) 253 cm, wire (F 6) fr wv hs, mst (F 7) M z, lst dve DL] h := hL
    have hL : stars [pt o (.inr (9, [.ref (F 0), .ref (F 1), .ref (F 2), .ref (F 3), .ref (F 4), .int (nI DL.length), .ref (F 6), .ref (F 7), .int (nI ck)])), row (F 0) 400 tp, row (F 1) 253 an, row (F 2) 253 hr, row (F 3) 253 cm, pt (F 4) (.inl (2, 6, .inr (.inr (.inr (.inr (adD DL)))))), wire (F 6) fr wv hs, mst (F 7) M z, lst dve DL] h := stars_ixn hL 9 rfl [0, 2, 3, 4, 5, 1, 6, 7, 8] (by decide) rfl
    refine e_astore_nN 6 (ls' := [some (.ref o), some (.int x1), some (.int x2), some .null]) dX11_busy_5 rfl (by decide) rfl ?_
    refine e_aload_nN 7 dX11_busy_6 rfl rfl ?_
    refine e_ifnullN 20 dX11_busy_7 rfl ?_
    refine e_iconst 21 (v := (nI 0)) dX11_busy_20 rfl (by decide) ?_
    exact e_zret dX11_busy_21 rfl (Or.inl (by decide)) (by omega) (by omega) (⟨_, ⟨by rw [show buC (tp, an, D, (fr, wv, hs), M, ck) x1 x2 = false by simp [buC, hDl, hd]]; rfl, by rw [buG, if_neg (show ¬ buC (tp, an, D, (fr, wv, hs), M, ck) x1 x2 = true by simp [buC, hDl, hd])]⟩, flo_c (g := (tp, an, D, (fr, wv, hs), M, ck)) (X := []) hD hl6 (stars_ixn hL 9 rfl [0, 1, 2, 3, 4, 5, 6, 7, 8] (by decide) rfl)⟩)
  · subst hxi
    obtain ⟨⟨d, v, bf, lm, ct, L, S, B⟩, he⟩ : ∃ e, DL[i]? = some e := ⟨_, List.getElem?_eq_getElem hi⟩
    have hg : D.getD i ds0 = (v, bf, lm, ct, L, S, B) := gD_at hD he
    have hic : (nI i).toNatClampNeg = i := nI_clamp (by omega)
    have hokD := hok _ (gD_mem hD he)
    obtain ⟨h8, hb, hct, hLs, hSs, hru, h18, hlo9, her9, hrp9, hT9, hK9, hv0, hv1, hv2, hv17⟩ := hokD
    have h18 : v 18 < 100 := h18
    refine p_callV 5 hL [0, 5, 1, 2, 3, 4, 6, 7, 8] 9 rfl (by decide) (L1 := [pt o (.inr (9, [.ref (F 0), .ref (F 1), .ref (F 2), .ref (F 3), .ref (F 4), .int (nI DL.length), .ref (F 6), .ref (F 7), .int (nI ck)])), pt (F 4) (.inl (2, 6, .inr (.inr (.inr (.inr (adD DL))))))]) (L2 := [row (F 0) 400 tp, row (F 1) 253 an, row (F 2) 253 hr, row (F 3) 253 cm, wire (F 6) fr wv hs, mst (F 7) M z, lst dve DL]) rfl isO_pt 0 rfl dX11_busy_2 rfl cv_X11_82 (k_deviceOf1 (by omega) he) rfl rfl (Nat.le_of_ble_eq_true rfl) ⟨by decide, by omega, by omega⟩ (fun r1 L1 h q hL => ?_)
    obtain ⟨rfl, rfl⟩ := q
    have hL : stars [pt o (.inr (9, [.ref (F 0), .ref (F 1), .ref (F 2), .ref (F 3), .ref (F 4), .int (nI DL.length), .ref (F 6), .ref (F 7), .int (nI ck)])), pt (F 4) (.inl (2, 6, .inr (.inr (.inr (.inr (adD DL)))))), row (F 0) 400 tp, row (F 1) 253 an, row (F 2) 253 hr, row (F 3) 253 cm, wire (F 6) fr wv hs, mst (F 7) M z, lst dve DL] h := hL
    have hL : stars [pt o (.inr (9, [.ref (F 0), .ref (F 1), .ref (F 2), .ref (F 3), .ref (F 4), .int (nI DL.length), .ref (F 6), .ref (F 7), .int (nI ck)])), row (F 0) 400 tp, row (F 1) 253 an, row (F 2) 253 hr, row (F 3) 253 cm, pt (F 4) (.inl (2, 6, .inr (.inr (.inr (.inr (adD DL)))))), wire (F 6) fr wv hs, mst (F 7) M z, lst dve DL] h := stars_ixn hL 9 rfl [0, 2, 3, 4, 5, 1, 6, 7, 8] (by decide) rfl
    refine e_astore_n 6 (ls' := [some (.ref o), some (.int (nI i)), some (.int x2), some (.ref d)]) dX11_busy_5 rfl (by decide) rfl ?_
    refine e_aload_n 7 dX11_busy_6 rfl rfl ?_
    refine e_ifnull 10 dX11_busy_7 rfl ?_
    refine e_iload_n 11 dX11_busy_10 rfl rfl ?_
    refine e_iconst 12 (v := (nI 0)) dX11_busy_11 rfl (by decide) ?_
    refine e_bipush 14 (v := (nI 9)) dX11_busy_12 rfl (by decide) ?_
    refine p_callS 17 hL [0, 1, 2, 3, 4, 5, 6, 7, 8] 9 rfl (by decide) (L1 := []) (L2 := [pt o (.inr (9, [.ref (F 0), .ref (F 1), .ref (F 2), .ref (F 3), .ref (F 4), .int (nI DL.length), .ref (F 6), .ref (F 7), .int (nI ck)])), row (F 0) 400 tp, row (F 1) 253 an, row (F 2) 253 hr, row (F 3) 253 cm, pt (F 4) (.inl (2, 6, .inr (.inr (.inr (.inr (adD DL)))))), wire (F 6) fr wv hs, mst (F 7) M z, lst dve DL]) rfl dX11_busy_14 rfl cs_X11_71 k_X11_withinI rfl rfl (Nat.le_of_ble_eq_true rfl) ⟨by decide, by omega, by omega⟩ (fun r1 L1 h q hL => ?_)
    obtain ⟨rfl, rfl⟩ := q
    have hL : stars [pt o (.inr (9, [.ref (F 0), .ref (F 1), .ref (F 2), .ref (F 3), .ref (F 4), .int (nI DL.length), .ref (F 6), .ref (F 7), .int (nI ck)])), row (F 0) 400 tp, row (F 1) 253 an, row (F 2) 253 hr, row (F 3) 253 cm, pt (F 4) (.inl (2, 6, .inr (.inr (.inr (.inr (adD DL)))))), wire (F 6) fr wv hs, mst (F 7) M z, lst dve DL] h := hL
    refine e_if_ne 22 20 dX11_busy_17 rfl rfl (fun c17 => ?_) (fun c17 => ?_)
    · have k17 := jb_ne_t c17
      obtain ⟨n, rfl, na, nb⟩ := inI_nat (by first | decide | omega) (by first | decide | omega) k17
      have nc : (nI n).toNatClampNeg = n := nI_clamp (by omega)
      have hL : stars [lst dve DL, pt o (.inr (9, [.ref (F 0), .ref (F 1), .ref (F 2), .ref (F 3), .ref (F 4), .int (nI DL.length), .ref (F 6), .ref (F 7), .int (nI ck)])), row (F 0) 400 tp, row (F 1) 253 an, row (F 2) 253 hr, row (F 3) 253 cm, pt (F 4) (.inl (2, 6, .inr (.inr (.inr (.inr (adD DL)))))), wire (F 6) fr wv hs, mst (F 7) M z] h := stars_ixn hL 9 rfl [8, 0, 1, 2, 3, 4, 5, 6, 7] (by decide) rfl
      obtain ⟨A, hL⟩ := dev_o (dev_at he hL)
      have hL : stars [pt d (.inr (1, [.int (nI (v 0)), .int (nI (v 1)), .int (nI (v 2)), .ref (A 3), .ref (A 4), .ref (A 5), .ref (A 6), .ref (A 7), .int (nI (v 8)), .ref (A 9), .ref (A 10), .ref (A 11), .ref (A 12), .ref (A 13), .ref (A 14), .ref (A 15), .ref (A 16), .int (nI (v 17)), .int (nI (v 18)), .int (bI (B 0))])), bank (A 3) 1 (bf 0) (L 0), bank (A 4) 1 (bf 1) (L 1), bank (A 5) 65535 (bf 2) (L 2), bank (A 6) 65535 (bf 3) (L 3), pt (A 7) (.inl (0, 32, .inl (fun i => nI (lm i)))), shf (A 9) 4 120 (S 0), shf (A 10) 4 40 (S 1), shf (A 11) 10 40 (S 2), row (A 12) 48 (L 4), pt (A 13) (.inl (0, 9, .inl (fun i => nI (ct i)))), row (A 14) 64 (L 5), stn (A 15) (L 6) (v 20) (B 1) (B 2), row (A 16) 253 (L 7), lst dve (DL.eraseIdx i), pt o (.inr (9, [.ref (F 0), .ref (F 1), .ref (F 2), .ref (F 3), .ref (F 4), .int (nI DL.length), .ref (F 6), .ref (F 7), .int (nI ck)])), row (F 0) 400 tp, row (F 1) 253 an, row (F 2) 253 hr, row (F 3) 253 cm, pt (F 4) (.inl (2, 6, .inr (.inr (.inr (.inr (adD DL)))))), wire (F 6) fr wv hs, mst (F 7) M z] h := hL
      refine e_aload_n 23 dX11_busy_22 rfl rfl ?_
      refine e_iload_n 24 dX11_busy_23 rfl rfl ?_
      refine p_put 27 hL 0 (fs' := [.int (nI (v 0)), .int (nI (v 1)), .int (nI (v 2)), .ref (A 3), .ref (A 4), .ref (A 5), .ref (A 6), .ref (A 7), .int (nI (v 8)), .ref (A 9), .ref (A 10), .ref (A 11), .ref (A 12), .ref (A 13), .ref (A 14), .ref (A 15), .ref (A 16), .int (nI (v 17)), .int (nI n), .int (bI (B 0))]) (L' := [pt d (.inr (1, [.int (nI (v 0)), .int (nI (v 1)), .int (nI (v 2)), .ref (A 3), .ref (A 4), .ref (A 5), .ref (A 6), .ref (A 7), .int (nI (v 8)), .ref (A 9), .ref (A 10), .ref (A 11), .ref (A 12), .ref (A 13), .ref (A 14), .ref (A 15), .ref (A 16), .int (nI (v 17)), .int (nI n), .int (bI (B 0))])), bank (A 3) 1 (bf 0) (L 0), bank (A 4) 1 (bf 1) (L 1), bank (A 5) 65535 (bf 2) (L 2), bank (A 6) 65535 (bf 3) (L 3), pt (A 7) (.inl (0, 32, .inl (fun i => nI (lm i)))), shf (A 9) 4 120 (S 0), shf (A 10) 4 40 (S 1), shf (A 11) 10 40 (S 2), row (A 12) 48 (L 4), pt (A 13) (.inl (0, 9, .inl (fun i => nI (ct i)))), row (A 14) 64 (L 5), stn (A 15) (L 6) (v 20) (B 1) (B 2), row (A 16) 253 (L 7), lst dve (DL.eraseIdx i), pt o (.inr (9, [.ref (F 0), .ref (F 1), .ref (F 2), .ref (F 3), .ref (F 4), .int (nI DL.length), .ref (F 6), .ref (F 7), .int (nI ck)])), row (F 0) 400 tp, row (F 1) 253 an, row (F 2) 253 hr, row (F 3) 253 cm, pt (F 4) (.inl (2, 6, .inr (.inr (.inr (.inr (adD DL)))))), wire (F 6) fr wv hs, mst (F 7) M z]) rfl rfl dX11_busy_24 rfl fp_X11_156_1 (Or.inl rfl) (Nat.le_of_ble_eq_true rfl) rfl rfl rfl (fun h hL => ?_)
      refine e_iconst 28 (v := (nI 1)) dX11_busy_27 rfl (by decide) ?_
      exact e_zret dX11_busy_28 rfl (Or.inr (by decide)) (by omega) (by omega) (⟨_, ⟨by rw [show buC (tp, an, D, (fr, wv, hs), M, ck) (nI i) (nI n) = true by simp [buC, hDl, hd, k17]]; rfl, by rw [buG, if_pos (show buC (tp, an, D, (fr, wv, hs), M, ck) (nI i) (nI n) = true by simp [buC, hDl, hd, k17]), hic, nc, gD, hg]⟩, flo_cd (X := []) he ((upN v 18 n), bf, lm, ct, L, S, B) hD hl6 (dev_c (A := A) (v := (upN v 18 n)) (bf := bf) (lm := lm) (ct := ct) (L := L) (S := S) (B := B) (stars_ixn hL 23 rfl [0, 1, 2, 3, 4, 5, 6, 7, 8, 9, 10, 11, 12, 13, 14, 15, 16, 17, 18, 19, 20, 21, 22] (by decide) rfl))⟩)
    · have k17 := jb_ne_f c17
      refine e_iconst 21 (v := (nI 0)) dX11_busy_20 rfl (by decide) ?_
      exact e_zret dX11_busy_21 rfl (Or.inl (by decide)) (by omega) (by omega) (⟨_, ⟨by rw [show buC (tp, an, D, (fr, wv, hs), M, ck) (nI i) x2 = false by simp [buC, hDl, hd, k17]]; rfl, by rw [buG, if_neg (show ¬ buC (tp, an, D, (fr, wv, hs), M, ck) (nI i) x2 = true by simp [buC, hDl, hd, k17])]⟩, flo_c (g := (tp, an, D, (fr, wv, hs), M, ck)) (X := []) hD hl6 (stars_ixn hL 9 rfl [0, 1, 2, 3, 4, 5, 6, 7, 8] (by decide) rfl)⟩)
