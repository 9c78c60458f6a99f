/-! FieldLine: all devices, one behind the other -/
theorem dv_id {f : Nat → DS → DS} {D : List DS} {DL : List (Nat × DS)} {i d : Nat} {s : DS} (h : DL.map (·.2) = dvX f i D) (he : DL[i]? = some (d, s)) (hs : f i s = s) : DL.map (·.2) = dvX f (i + 1) D := by
  rw [dvX, ← h, gD_at rfl he, hs, set_same he rfl]
set_option maxRecDepth 20000 in
set_option maxHeartbeats 2000000 in
theorem l_applyRules {o : Nat} {tp an fr : List Nat} {D : List DS} {wv : Nat → Nat} {hs : List (Nat × Nat)} {M : MS} {ck : Nat} {z : HD} {F : Nat → Nat} {n0 : Nat} (h6 : n0 ≤ 6) (hok : ∀ s ∈ D, okD s) : ∀ (n : Nat) (i : Nat) (DL : List (Nat × DS)) (hr cm : List Nat) (h : eH), n0 - i < n → i ≤ n0 → DL.map (·.2) = dvX (fun _ s => arD s) i D → DL.length = n0 → stars [pt o (.inr (9, [.ref (F 0), .ref (F 1), .ref (F 2), .ref (F 3), .ref (F 4), .int (nI DL.length), .ref (F 6), .ref (F 7), .int (nI ck)])), row (F 0) 400 tp, row (F 1) 253 an, row (F 2) 253 hr, row (F 3) 253 cm, pt (F 4) (.inl (2, 6, .inr (.inr (.inr (.inr (adD DL)))))), wire (F 6) fr wv hs, mst (F 7) M z, lst dve DL] h → EE mX11_applyRules 4 100 0 0 (fun r h' => ∃ K, (r = none ∧ K = [flo o (tp, an, (dvX (fun _ s => arD s) n0 D), (fr, wv, hs), M, ck) z]) ∧ stars K h') 2 [some (.ref o), some (.int (nI i)), none] [] h 0 0 := by
  intro n
  induction n with
  | zero => intro i DL hr cm h hlt hle hD hDn hL; exact absurd hlt (by omega)
  | succ n ih =>
    intro i DL hr cm h hlt hle hD hDn hL
    refine e_iload_n 3 dX11_applyRules_2 rfl rfl ?_
    refine e_aload_n 4 dX11_applyRules_3 rfl rfl ?_
    refine e_get 7 dX11_applyRules_4 rfl fl_X11_33_9 (stars_at _ 0 hL rfl) rfl ?_
    refine e_icmp_ge 30 10 dX11_applyRules_7 rfl rfl (fun c7 => ?_) (fun c7 => ?_)
    · have k7 := j_ge_t (a := i) (b := DL.length) (by omega) (by omega) c7
      exact e_vret dX11_applyRules_30 rfl (by omega) (by omega) (⟨_, ⟨rfl, rfl⟩, flo_c (g := (tp, an, (dvX (fun _ s => arD s) n0 D), (fr, wv, hs), M, ck)) (X := []) (show DL.map (·.2) = dvX (fun _ s => arD s) n0 D by rw [hD, show i = n0 by omega]) (by omega) (stars_ixn hL 9 rfl [0, 1, 2, 3, 4, 5, 6, 7, 8] (by decide) rfl)⟩)
    · have k7 := j_ge_f (a := i) (b := DL.length) (by omega) (by omega) c7
      have hi : i < DL.length := by omega
      obtain ⟨⟨d, v, bf, lm, ct, L, S, B⟩, he⟩ : ∃ e, DL[i]? = some e := ⟨_, List.getElem?_eq_getElem hi⟩
      have hsD := dv_in hD he
      have hokD := hok _ hsD
      obtain ⟨h8, hb, hct, hLs, hSs, hru, h18, hlo9, her9, hrp9, hT9, hK9, hv0, hv1, hv2, hv17⟩ := hokD
      refine e_aload_n 11 dX11_applyRules_10 rfl rfl ?_
      refine e_iload_n 12 dX11_applyRules_11 rfl rfl ?_
      refine p_callV 15 hL [0, 5, 1, 2, 3, 4, 6, 7, 8] 9 rfl (by decide) (L1 := [pt o (.inr (9, [.ref (F 0), .ref (F 1), .ref (F 2), .ref (F 3), .ref (F 4), .int (nI DL.length), .ref (F 6), .ref (F 7), .int (nI ck)])), pt (F 4) (.inl (2, 6, .inr (.inr (.inr (.inr (adD DL))))))]) (L2 := [row (F 0) 400 tp, row (F 1) 253 an, row (F 2) 253 hr, row (F 3) 253 cm, wire (F 6) fr wv hs, mst (F 7) M z, lst dve DL]) rfl isO_pt 0 rfl dX11_applyRules_12 rfl cv_X11_82 (k_deviceOf1 (by omega) he) rfl rfl (Nat.le_of_ble_eq_true rfl) ⟨by decide, by omega, by omega⟩ (fun r1 L1 h q hL => ?_)
      obtain ⟨rfl, rfl⟩ := q
      have hL : stars [pt o (.inr (9, [.ref (F 0), .ref (F 1), .ref (F 2), .ref (F 3), .ref (F 4), .int (nI DL.length), .ref (F 6), .ref (F 7), .int (nI ck)])), pt (F 4) (.inl (2, 6, .inr (.inr (.inr (.inr (adD DL)))))), row (F 0) 400 tp, row (F 1) 253 an, row (F 2) 253 hr, row (F 3) 253 cm, wire (F 6) fr wv hs, mst (F 7) M z, lst dve DL] h := hL
      have hL : stars [pt o (.inr (9, [.ref (F 0), .ref (F 1), .ref (F 2), .ref (F 3), .ref (F 4), .int (nI DL.length), .ref (F 6), .ref (F 7), .int (nI ck)])), row (F 0) 400 tp, row (F 1) 253 an, row (F 2) 253 hr, row (F 3) 253 cm, pt (F 4) (.inl (2, 6, .inr (.inr (.inr (.inr (adD DL)))))), wire (F 6) fr wv hs, mst (F 7) M z, lst dve DL] h := stars_ixn hL 9 rfl [0, 2, 3, 4, 5, 1, 6, 7, 8] (by decide) rfl
      refine e_astore_n 16 (ls' := [some (.ref o), some (.int (nI i)), some (.ref d)]) dX11_applyRules_15 rfl (by decide) rfl ?_
      refine e_aload_n 17 dX11_applyRules_16 rfl rfl ?_
      refine e_ifnull 20 dX11_applyRules_17 rfl ?_
      refine e_aload_n 21 dX11_applyRules_20 rfl rfl ?_
      have hL : stars [lst dve DL, pt o (.inr (9, [.ref (F 0), .ref (F 1), .ref (F 2), .ref (F 3), .ref (F 4), .int (nI DL.length), .ref (F 6), .ref (F 7), .int (nI ck)])), row (F 0) 400 tp, row (F 1) 253 an, row (F 2) 253 hr, row (F 3) 253 cm, pt (F 4) (.inl (2, 6, .inr (.inr (.inr (.inr (adD DL)))))), wire (F 6) fr wv hs, mst (F 7) M z] h := stars_ixn hL 9 rfl [8, 0, 1, 2, 3, 4, 5, 6, 7] (by decide) rfl
      have hL := dev_at he hL
      have hL : stars [dev d (v, bf, lm, ct, L, S, B), lst dve (DL.eraseIdx i), pt o (.inr (9, [.ref (F 0), .ref (F 1), .ref (F 2), .ref (F 3), .ref (F 4), .int (nI DL.length), .ref (F 6), .ref (F 7), .int (nI ck)])), row (F 0) 400 tp, row (F 1) 253 an, row (F 2) 253 hr, row (F 3) 253 cm, pt (F 4) (.inl (2, 6, .inr (.inr (.inr (.inr (adD DL)))))), wire (F 6) fr wv hs, mst (F 7) M z] h := hL
      refine p_callV 24 hL [0, 1, 2, 3, 4, 5, 6, 7, 8, 9] 10 rfl (by decide) (L1 := [dev d (v, bf, lm, ct, L, S, B)]) (L2 := [lst dve (DL.eraseIdx i), pt o (.inr (9, [.ref (F 0), .ref (F 1), .ref (F 2), .ref (F 3), .ref (F 4), .int (nI DL.length), .ref (F 6), .ref (F 7), .int (nI ck)])), row (F 0) 400 tp, row (F 1) 253 an, row (F 2) 253 hr, row (F 3) 253 cm, pt (F 4) (.inl (2, 6, .inr (.inr (.inr (.inr (adD DL)))))), wire (F 6) fr wv hs, mst (F 7) M z]) rfl dev_O 0 rfl dX11_applyRules_21 rfl cv_X11_242 (DK_applyRules (s := (v, bf, lm, ct, L, S, B)) hLs hru) rfl rfl (Nat.le_of_ble_eq_true rfl) ⟨by decide, by omega, by omega⟩ (fun r1 L1 h q hL => ?_)
      obtain ⟨rfl, rfl⟩ := q
      have hL : stars [dev d (arD (v, bf, lm, ct, L, S, B)), lst dve (DL.eraseIdx i), pt o (.inr (9, [.ref (F 0), .ref (F 1), .ref (F 2), .ref (F 3), .ref (F 4), .int (nI DL.length), .ref (F 6), .ref (F 7), .int (nI ck)])), row (F 0) 400 tp, row (F 1) 253 an, row (F 2) 253 hr, row (F 3) 253 cm, pt (F 4) (.inl (2, 6, .inr (.inr (.inr (.inr (adD DL)))))), wire (F 6) fr wv hs, mst (F 7) M z] h := hL
      have hL := lst_c (f := dve) (x := (d, (arD (v, bf, lm, ct, L, S, B)))) i hi hL
      rw [show adD DL = adD (DL.set i (d, (arD (v, bf, lm, ct, L, S, B)))) from adD_set he (arD (v, bf, lm, ct, L, S, B)), ← List.length_set (as := DL) (i := i) (a := (d, (arD (v, bf, lm, ct, L, S, B))))] at hL
      have hL : stars [lst dve (DL.set i (d, (arD (v, bf, lm, ct, L, S, B)))), pt o (.inr (9, [.ref (F 0), .ref (F 1), .ref (F 2), .ref (F 3), .ref (F 4), .int (nI (DL.set i (d, (arD (v, bf, lm, ct, L, S, B)))).length), .ref (F 6), .ref (F 7), .int (nI ck)])), row (F 0) 400 tp, row (F 1) 253 an, row (F 2) 253 hr, row (F 3) 253 cm, pt (F 4) (.inl (2, 6, .inr (.inr (.inr (.inr (adD (DL.set i (d, (arD (v, bf, lm, ct, L, S, B)))))))))), wire (F 6) fr wv hs, mst (F 7) M z] h := hL
      refine e_iinc 27 (v := (nI (i + 1))) (ls' := [some (.ref o), some (.int (nI (i + 1))), some (.ref d)]) dX11_applyRules_24 rfl rfl (nI_add i 1) (by decide) rfl ?_
      refine e_goto 2 dX11_applyRules_27 rfl ?_
      refine e_wk [some (.ref o), some (.int (nI (i + 1))), none] ⟨rfl, rfl, trivial⟩ ?_
      have hL : stars [pt o (.inr (9, [.ref (F 0), .ref (F 1), .ref (F 2), .ref (F 3), .ref (F 4), .int (nI (DL.set i (d, (arD (v, bf, lm, ct, L, S, B)))).length), .ref (F 6), .ref (F 7), .int (nI ck)])), row (F 0) 400 tp, row (F 1) 253 an, row (F 2) 253 hr, row (F 3) 253 cm, pt (F 4) (.inl (2, 6, .inr (.inr (.inr (.inr (adD (DL.set i (d, (arD (v, bf, lm, ct, L, S, B)))))))))), wire (F 6) fr wv hs, mst (F 7) M z, lst dve (DL.set i (d, (arD (v, bf, lm, ct, L, S, B))))] h := stars_ixn hL 9 rfl [1, 2, 3, 4, 5, 6, 7, 8, 0] (by decide) rfl
      exact ih (i + 1) (DL.set i (d, (arD (v, bf, lm, ct, L, S, B)))) hr cm h (by omega) (by omega) (dv_set hD he (rfl)) (by rw [List.length_set]; exact hDn) hL
set_option maxRecDepth 20000 in
set_option maxHeartbeats 2000000 in
theorem k_X11_applyRules {o : Nat} {tp an fr : List Nat} {D : List DS} {wv : Nat → Nat} {hs : List (Nat × Nat)} {M : MS} {ck : Nat} {z : HD} (hok : ∀ s ∈ D, okD s) : CA mX11_applyRules [.ref o] [flo o (tp, an, D, (fr, wv, hs), M, ck) z] (fun r K => r = none ∧ K = [flo o (tp, an, (dvX (fun _ s => arD s) D.length D), (fr, wv, hs), M, ck) z]) 4 100 0 0 := by
  refine CA.mk 2 (ls := [some (.ref o), none, none]) rfl rfl (Nat.le_of_ble_eq_true rfl) rfl (fun h hL => ?_)
  obtain ⟨F, DL, hr, cm, hD, hl6, hL⟩ := flo_o hL
  have hL : stars [pt o (.inr (9, [.ref (F 0), .ref (F 1), .ref (F 2), .ref (F 3), .ref (F 4), .int (nI DL.length), .ref (F 6), .ref (F 7), .int (nI ck)])), row (F 0) 400 tp, row (F 1) 253 an, row (F 2) 253 hr, row (F 3) 253 cm, pt (F 4) (.inl (2, 6, .inr (.inr (.inr (.inr (adD DL)))))), wire (F 6) fr wv hs, mst (F 7) M z, lst dve DL] h := hL
  have hDl : D.length = DL.length := gD_len hD
  refine e_iconst 1 (v := (nI 0)) dX11_applyRules_0 rfl (by decide) ?_
  refine e_istore_n 2 (ls' := [some (.ref o), some (.int (nI 0)), none]) dX11_applyRules_1 rfl (by decide) rfl ?_
  exact l_applyRules (by omega)  hok _ 0 DL hr cm h (Nat.lt_succ_self _) (Nat.zero_le _) hD hDl.symm (by exact hL)
set_option maxRecDepth 20000 in
set_option maxHeartbeats 2000000 in
theorem l_shortenLags {o : Nat} {tp an fr : List Nat} {D : List DS} {wv : Nat → Nat} {hs : List (Nat × Nat)} {M : MS} {ck : Nat} {z : HD} {F : Nat → Nat} {n0 : Nat} (h6 : n0 ≤ 6) (hok : ∀ s ∈ D, okD s) : ∀ (n : Nat) (i : Nat) (DL : List (Nat × DS)) (hr cm : List Nat) (h : eH), n0 - i < n → i ≤ n0 → DL.map (·.2) = dvX (fun _ s => slD s) i D → DL.length = n0 → stars [pt o (.inr (9, [.ref (F 0), .ref (F 1), .ref (F 2), .ref (F 3), .ref (F 4), .int (nI DL.length), .ref (F 6), .ref (F 7), .int (nI ck)])), row (F 0) 400 tp, row (F 1) 253 an, row (F 2) 253 hr, row (F 3) 253 cm, pt (F 4) (.inl (2, 6, .inr (.inr (.inr (.inr (adD DL)))))), wire (F 6) fr wv hs, mst (F 7) M z, lst dve DL] h → EE mX11_shortenLags 1 30 0 0 (fun r h' => ∃ K, (r = none ∧ K = [flo o (tp, an, (dvX (fun _ s => slD s) n0 D), (fr, wv, hs), M, ck) z]) ∧ stars K h') 2 [some (.ref o), some (.int (nI i)), none] [] h 0 0 := by
  intro n
  induction n with
  | zero => intro i DL hr cm h hlt hle hD hDn hL; exact absurd hlt (by omega)
  | succ n ih =>
    intro i DL hr cm h hlt hle hD hDn hL
    refine e_iload_n 3 dX11_shortenLags_2 rfl rfl ?_
    refine e_aload_n 4 dX11_shortenLags_3 rfl rfl ?_
    refine e_get 7 dX11_shortenLags_4 rfl fl_X11_33_9 (stars_at _ 0 hL rfl) rfl ?_
    refine e_icmp_ge 43 10 dX11_shortenLags_7 rfl rfl (fun c7 => ?_) (fun c7 => ?_)
    · have k7 := j_ge_t (a := i) (b := DL.length) (by omega) (by omega) c7
      exact e_vret dX11_shortenLags_43 rfl (by omega) (by omega) (⟨_, ⟨rfl, rfl⟩, flo_c (g := (tp, an, (dvX (fun _ s => slD s) n0 D), (fr, wv, hs), M, ck)) (X := []) (show DL.map (·.2) = dvX (fun _ s => slD s) n0 D by rw [hD, show i = n0 by omega]) (by omega) (stars_ixn hL 9 rfl [0, 1, 2, 3, 4, 5, 6, 7, 8] (by decide) rfl)⟩)
    · have k7 := j_ge_f (a := i) (b := DL.length) (by omega) (by omega) c7
      have hi : i < DL.length := by omega
      obtain ⟨⟨d, v, bf, lm, ct, L, S, B⟩, he⟩ : ∃ e, DL[i]? = some e := ⟨_, List.getElem?_eq_getElem hi⟩
      have hsD := dv_in hD he
      have hokD := hok _ hsD
      obtain ⟨h8, hb, hct, hLs, hSs, hru, h18, hlo9, her9, hrp9, hT9, hK9, hv0, hv1, hv2, hv17⟩ := hokD
      have hv17 : v 17 ≤ 2000 := hv17
      refine e_aload_n 11 dX11_shortenLags_10 rfl rfl ?_
      refine e_iload_n 12 dX11_shortenLags_11 rfl rfl ?_
      refine p_callV 15 hL [0, 5, 1, 2, 3, 4, 6, 7, 8] 9 rfl (by decide) (L1 := [pt o (.inr (9, [.ref (F 0), .ref (F 1), .ref (F 2), .ref (F 3), .ref (F 4), .int (nI DL.length), .ref (F 6), .ref (F 7), .int (nI ck)])), pt (F 4) (.inl (2, 6, .inr (.inr (.inr (.inr (adD DL))))))]) (L2 := [row (F 0) 400 tp, row (F 1) 253 an, row (F 2) 253 hr, row (F 3) 253 cm, wire (F 6) fr wv hs, mst (F 7) M z, lst dve DL]) rfl isO_pt 0 rfl dX11_shortenLags_12 rfl cv_X11_82 (k_deviceOf1 (by omega) he) rfl rfl (Nat.le_of_ble_eq_true rfl) ⟨by decide, by omega, by omega⟩ (fun r1 L1 h q hL => ?_)
      obtain ⟨rfl, rfl⟩ := q
      have hL : stars [pt o (.inr (9, [.ref (F 0), .ref (F 1), .ref (F 2), .ref (F 3), .ref (F 4), .int (nI DL.length), .ref (F 6), .ref (F 7), .int (nI ck)])), pt (F 4) (.inl (2, 6, .inr (.inr (.inr (.inr (adD DL)))))), row (F 0) 400 tp, row (F 1) 253 an, row (F 2) 253 hr, row (F 3) 253 cm, wire (F 6) fr wv hs, mst (F 7) M z, lst dve DL] h := hL
      have hL : stars [pt o (.inr (9, [.ref (F 0), .ref (F 1), .ref (F 2), .ref (F 3), .ref (F 4), .int (nI DL.length), .ref (F 6), .ref (F 7), .int (nI ck)])), row (F 0) 400 tp, row (F 1) 253 an, row (F 2) 253 hr, row (F 3) 253 cm, pt (F 4) (.inl (2, 6, .inr (.inr (.inr (.inr (adD DL)))))), wire (F 6) fr wv hs, mst (F 7) M z, lst dve DL] h := stars_ixn hL 9 rfl [0, 2, 3, 4, 5, 1, 6, 7, 8] (by decide) rfl
      refine e_astore_n 16 (ls' := [some (.ref o), some (.int (nI i)), some (.ref d)]) dX11_shortenLags_15 rfl (by decide) rfl ?_
      refine e_aload_n 17 dX11_shortenLags_16 rfl rfl ?_
      refine e_ifnull 20 dX11_shortenLags_17 rfl ?_
      refine e_aload_n 21 dX11_shortenLags_20 rfl rfl ?_
      obtain ⟨z21, y21⟩ := dev_rd _ 8 hL rfl he
      refine e_get 24 dX11_shortenLags_21 rfl fl_X11_266_1 y21 rfl ?_
      refine e_if_le 37 27 dX11_shortenLags_24 rfl rfl (fun c24 => ?_) (fun c24 => ?_)
      · have k24 := j_le0_t (a := (v 17)) (by omega) c24
        refine e_iinc 40 (v := (nI (i + 1))) (ls' := [some (.ref o), some (.int (nI (i + 1))), some (.ref d)]) dX11_shortenLags_37 rfl rfl (nI_add i 1) (by decide) rfl ?_
        refine e_goto 2 dX11_shortenLags_40 rfl ?_
        refine e_wk [some (.ref o), some (.int (nI (i + 1))), none] ⟨rfl, rfl, trivial⟩ ?_
        exact ih (i + 1) DL hr cm h (by omega) (by omega) (dv_id hD he (if_neg (show ¬ 0 < v 17 by omega))) hDn hL
      · have k24 := j_le0_f (a := (v 17)) (by omega) c24
        have hL : stars [lst dve DL, pt o (.inr (9, [.ref (F 0), .ref (F 1), .ref (F 2), .ref (F 3), .ref (F 4), .int (nI DL.length), .ref (F 6), .ref (F 7), .int (nI ck)])), row (F 0) 400 tp, row (F 1) 253 an, row (F 2) 253 hr, row (F 3) 253 cm, pt (F 4) (.inl (2, 6, .inr (.inr (.inr (.inr (adD DL)))))), wire (F 6) fr wv hs, mst (F 7) M z] h := stars_ixn hL 9 rfl [8, 0, 1, 2, 3, 4, 5, 6, 7] (by decide) rfl
        obtain ⟨A, hL⟩ := dev_o (dev_at he hL)
        have hL : stars [pt d (.inr (1, [.int (nI (v 0)), .int (nI (v 1)), .int (nI (v 2)), .ref (A 3), .ref (A 4), .ref (A 5), .ref (A 6), .ref (A 7), .int (nI (v 8)), .ref (A 9), .ref (A 10), .ref (A 11), .ref (A 12), .ref (A 13), .ref (A 14), .ref (A 15), .ref (A 16), .int (nI (v 17)), .int (nI (v 18)), .int (bI (B 0))])), bank (A 3) 1 (bf 0) (L 0), bank (A 4) 1 (bf 1) (L 1), bank (A 5) 65535 (bf 2) (L 2), bank (A 6) 65535 (bf 3) (L 3), pt (A 7) (.inl (0, 32, .inl (fun i => nI (lm i)))), shf (A 9) 4 120 (S 0), shf (A 10) 4 40 (S 1), shf (A 11) 10 40 (S 2), row (A 12) 48 (L 4), pt (A 13) (.inl (0, 9, .inl (fun i => nI (ct i)))), row (A 14) 64 (L 5), stn (A 15) (L 6) (v 20) (B 1) (B 2), row (A 16) 253 (L 7), lst dve (DL.eraseIdx i), pt o (.inr (9, [.ref (F 0), .ref (F 1), .ref (F 2), .ref (F 3), .ref (F 4), .int (nI DL.length), .ref (F 6), .ref (F 7), .int (nI ck)])), row (F 0) 400 tp, row (F 1) 253 an, row (F 2) 253 hr, row (F 3) 253 cm, pt (F 4) (.inl (2, 6, .inr (.inr (.inr (.inr (adD DL)))))), wire (F 6) fr wv hs, mst (F 7) M z] h := hL
        refine e_aload_n 28 dX11_shortenLags_27 rfl rfl ?_
        refine e_dup 29 dX11_shortenLags_28 rfl rfl ?_
        refine e_get 32 dX11_shortenLags_29 rfl fl_X11_266_1 (stars_at _ 0 hL rfl) rfl ?_
        refine e_iconst 33 (v := (nI 1)) dX11_shortenLags_32 rfl (by decide) ?_
        refine e_isub 34 (v := (nI ((v 17) - 1))) dX11_shortenLags_33 rfl (pk_sub (by omega)) ?_
        refine p_put 37 hL 0 (fs' := [.int (nI (v 0)), .int (nI (v 1)), .int (nI (v 2)), .ref (A 3), .ref (A 4), .ref (A 5), .ref (A 6), .ref (A 7), .int (nI (v 8)), .ref (A 9), .ref (A 10), .ref (A 11), .ref (A 12), .ref (A 13), .ref (A 14), .ref (A 15), .ref (A 16), .int (nI ((v 17) - 1)), .int (nI (v 18)), .int (bI (B 0))]) (L' := [pt d (.inr (1, [.int (nI (v 0)), .int (nI (v 1)), .int (nI (v 2)), .ref (A 3), .ref (A 4), .ref (A 5), .ref (A 6), .ref (A 7), .int (nI (v 8)), .ref (A 9), .ref (A 10), .ref (A 11), .ref (A 12), .ref (A 13), .ref (A 14), .ref (A 15), .ref (A 16), .int (nI ((v 17) - 1)), .int (nI (v 18)), .int (bI (B 0))])), bank (A 3) 1 (bf 0) (L 0), bank (A 4) 1 (bf 1) (L 1), bank (A 5) 65535 (bf 2) (L 2), bank (A 6) 65535 (bf 3) (L 3), pt (A 7) (.inl (0, 32, .inl (fun i => nI (lm i)))), shf (A 9) 4 120 (S 0), shf (A 10) 4 40 (S 1), shf (A 11) 10 40 (S 2), row (A 12) 48 (L 4), pt (A 13) (.inl (0, 9, .inl (fun i => nI (ct i)))), row (A 14) 64 (L 5), stn (A 15) (L 6) (v 20) (B 1) (B 2), row (A 16) 253 (L 7), lst dve (DL.eraseIdx i), pt o (.inr (9, [.ref (F 0), .ref (F 1), .ref (F 2), .ref (F 3), .ref (F 4), .int (nI DL.length), .ref (F 6), .ref (F 7), .int (nI ck)])), row (F 0) 400 tp, row (F 1) 253 an, row (F 2) 253 hr, row (F 3) 253 cm, pt (F 4) (.inl (2, 6, .inr (.inr (.inr (.inr (adD DL)))))), wire (F 6) fr wv hs, mst (F 7) M z]) rfl rfl dX11_shortenLags_34 rfl fp_X11_266_1 (Or.inl rfl) (Nat.le_of_ble_eq_true rfl) rfl rfl rfl (fun h hL => ?_)
        have hL := dev_c (A := A) (v := (upN v 17 (v 17 - 1))) (bf := bf) (lm := lm) (ct := ct) (L := L) (S := S) (B := B) hL
        have hL : stars [dev d ((upN v 17 (v 17 - 1)), bf, lm, ct, L, S, B), lst dve (DL.eraseIdx i), pt o (.inr (9, [.ref (F 0), .ref (F 1), .ref (F 2), .ref (F 3), .ref (F 4), .int (nI DL.length), .ref (F 6), .ref (F 7), .int (nI ck)])), row (F 0) 400 tp, row (F 1) 253 an, row (F 2) 253 hr, row (F 3) 253 cm, pt (F 4) (.inl (2, 6, .inr (.inr (.inr (.inr (adD DL)))))), wire (F 6) fr wv hs, mst (F 7) M z] h := hL
        have hL := lst_c (f := dve) (x := (d, ((upN v 17 (v 17 - 1)), bf, lm, ct, L, S, B))) i hi hL
        rw [show adD DL = adD (DL.set i (d, ((upN v 17 (v 17 - 1)), bf, lm, ct, L, S, B))) from adD_set he ((upN v 17 (v 17 - 1)), bf, lm, ct, L, S, B), ← List.length_set (as := DL) (i := i) (a := (d, ((upN v 17 (v 17 - 1)), bf, lm, ct, L, S, B)))] at hL
        have hL : stars [lst dve (DL.set i (d, ((upN v 17 (v 17 - 1)), bf, lm, ct, L, S, B))), pt o (.inr (9, [.ref (F 0), .ref (F 1), .ref (F 2), .ref (F 3), .ref (F 4), .int (nI (DL.set i (d, ((upN v 17 (v 17 - 1)), bf, lm, ct, L, S, B))).length), .ref (F 6), .ref (F 7), .int (nI ck)])), row (F 0) 400 tp, row (F 1) 253 an, row (F 2) 253 hr, row (F 3) 253 cm, pt (F 4) (.inl (2, 6, .inr (.inr (.inr (.inr (adD (DL.set i (d, ((upN v 17 (v 17 - 1)), bf, lm, ct, L, S, B))))))))), wire (F 6) fr wv hs, mst (F 7) M z] h := hL
        refine e_iinc 40 (v := (nI (i + 1))) (ls' := [some (.ref o), some (.int (nI (i + 1))), some (.ref d)]) dX11_shortenLags_37 rfl rfl (nI_add i 1) (by decide) rfl ?_
        refine e_goto 2 dX11_shortenLags_40 rfl ?_
        refine e_wk [some (.ref o), some (.int (nI (i + 1))), none] ⟨rfl, rfl, trivial⟩ ?_
        have hL : stars [pt o (.inr (9, [.ref (F 0), .ref (F 1), .ref (F 2), .ref (F 3), .ref (F 4), .int (nI (DL.set i (d, ((upN v 17 (v 17 - 1)), bf, lm, ct, L, S, B))).length), .ref (F 6), .ref (F 7), .int (nI ck)])), row (F 0) 400 tp, row (F 1) 253 an, row (F 2) 253 hr, row (F 3) 253 cm, pt (F 4) (.inl (2, 6, .inr (.inr (.inr (.inr (adD (DL.set i (d, ((upN v 17 (v 17 - 1)), bf, lm, ct, L, S, B))))))))), wire (F 6) fr wv hs, mst (F 7) M z, lst dve (DL.set i (d, ((upN v 17 (v 17 - 1)), bf, lm, ct, L, S, B)))] h := stars_ixn hL 9 rfl [1, 2, 3, 4, 5, 6, 7, 8, 0] (by decide) rfl
        exact ih (i + 1) (DL.set i (d, (upN v 17 (v 17 - 1), bf, lm, ct, L, S, B))) hr cm h (by omega) (by omega) (dv_set hD he (if_pos (show 0 < v 17 by omega))) (by rw [List.length_set]; exact hDn) hL
set_option maxRecDepth 20000 in
set_option maxHeartbeats 2000000 in
theorem k_X11_shortenLags {o : Nat} {tp an fr : List Nat} {D : List DS} {wv : Nat → Nat} {hs : List (Nat × Nat)} {M : MS} {ck : Nat} {z : HD} (hok : ∀ s ∈ D, okD s) : CA mX11_shortenLags [.ref o] [flo o (tp, an, D, (fr, wv, hs), M, ck) z] (fun r K => r = none ∧ K = [flo o (tp, an, (dvX (fun _ s => slD s) D.length D), (fr, wv, hs), M, ck) z]) 1 30 0 0 := by
  refine CA.mk 2 (ls := [some (.ref o), none, none]) rfl rfl (Nat.le_of_ble_eq_true rfl) rfl (fun h hL => ?_)
  obtain ⟨F, DL, hr, cm, hD, hl6, hL⟩ := flo_o hL
  have hL : stars [pt o (.inr (9, [.ref (F 0), .ref (F 1), .ref (F 2), .ref (F 3), .ref (F 4), .int (nI DL.length), .ref (F 6), .ref (F 7), .int (nI ck)])), row (F 0) 400 tp, row (F 1) 253 an, row (F 2) 253 hr, row (F 3) 253 cm, pt (F 4) (.inl (2, 6, .inr (.inr (.inr (.inr (adD DL)))))), wire (F 6) fr wv hs, mst (F 7) M z, lst dve DL] h := hL
  have hDl : D.length = DL.length := gD_len hD
  refine e_iconst 1 (v := (nI 0)) dX11_shortenLags_0 rfl (by decide) ?_
  refine e_istore_n 2 (ls' := [some (.ref o), some (.int (nI 0)), none]) dX11_shortenLags_1 rfl (by decide) rfl ?_
  exact l_shortenLags (by omega)  hok _ 0 DL hr cm h (Nat.lt_succ_self _) (Nat.zero_le _) hD hDl.symm (by exact hL)
set_option maxRecDepth 20000 in
set_option maxHeartbeats 2000000 in
theorem l_spread {o : Nat} {tp an fr : List Nat} {D : List DS} {wv : Nat → Nat} {hs : List (Nat × Nat)} {M : MS} {ck : Nat} {z : HD} {F : Nat → Nat} {n0 : Nat} (h6 : n0 ≤ 6) {who b : Nat} (hw : who < 1000) (hq20 : ∀ s ∈ D, s.1 20 < 1000000) (hok : ∀ s ∈ D, okD s) : ∀ (n : Nat) (i : Nat) (DL : List (Nat × DS)) (hr cm : List Nat) (h : eH), n0 - i < n → i ≤ n0 → DL.map (·.2) = dvX (fun i s => if who = 2 + i then s else heD b s) i D → DL.length = n0 → stars [pt o (.inr (9, [.ref (F 0), .ref (F 1), .ref (F 2), .ref (F 3), .ref (F 4), .int (nI DL.length), .ref (F 6), .ref (F 7), .int (nI ck)])), row (F 0) 400 tp, row (F 1) 253 an, row (F 2) 253 hr, row (F 3) 253 cm, pt (F 4) (.inl (2, 6, .inr (.inr (.inr (.inr (adD DL)))))), wire (F 6) fr wv hs, mst (F 7) M z, lst dve DL] h → EE mX11_spread 2 60 0 0 (fun r h' => ∃ K, (r = none ∧ K = [flo o (tp, an, (dvX (fun i s => if who = 2 + i then s else heD b s) n0 D), (fr, wv, hs), M, ck) z]) ∧ stars K h') 18 [some (.ref o), some (.int (nI who)), some (.int (nI b)), some (.int (nI i)), none] [] h 0 0 := by
  intro n
  induction n with
  | zero => intro i DL hr cm h hlt hle hD hDn hL; exact absurd hlt (by omega)
  | succ n ih =>
    intro i DL hr cm h hlt hle hD hDn hL
    refine e_iload_n 19 dX11_spread_18 rfl rfl ?_
    refine e_aload_n 20 dX11_spread_19 rfl rfl ?_
    refine e_get 23 dX11_spread_20 rfl fl_X11_33_9 (stars_at _ 0 hL rfl) rfl ?_
    refine e_icmp_ge 60 26 dX11_spread_23 rfl rfl (fun c23 => ?_) (fun c23 => ?_)
    · have k23 := j_ge_t (a := i) (b := DL.length) (by omega) (by omega) c23
      exact e_vret dX11_spread_60 rfl (by omega) (by omega) (⟨_, ⟨rfl, rfl⟩, flo_c (g := (tp, an, (dvX (fun i s => if who = 2 + i then s else heD b s) n0 D), (fr, wv, hs), M, ck)) (X := []) (show DL.map (·.2) = dvX (fun i s => if who = 2 + i then s else heD b s) n0 D by rw [hD, show i = n0 by omega]) (by omega) (stars_ixn hL 9 rfl [0, 1, 2, 3, 4, 5, 6, 7, 8] (by decide) rfl)⟩)
    · have k23 := j_ge_f (a := i) (b := DL.length) (by omega) (by omega) c23
      have hi : i < DL.length := by omega
      obtain ⟨⟨d, v, bf, lm, ct, L, S, B⟩, he⟩ : ∃ e, DL[i]? = some e := ⟨_, List.getElem?_eq_getElem hi⟩
      have hsD := dv_in hD he
      have hokD := hok _ hsD
      obtain ⟨h8, hb, hct, hLs, hSs, hru, h18, hlo9, her9, hrp9, hT9, hK9, hv0, hv1, hv2, hv17⟩ := hokD
      have hv20 : v 20 < 1000000 := hq20 _ hsD
      refine e_aload_n 27 dX11_spread_26 rfl rfl ?_
      refine e_iload_n 28 dX11_spread_27 rfl rfl ?_
      refine p_callV 31 hL [0, 5, 1, 2, 3, 4, 6, 7, 8] 9 rfl (by decide) (L1 := [pt o (.inr (9, [.ref (F 0), .ref (F 1), .ref (F 2), .ref (F 3), .ref (F 4), .int (nI DL.length), .ref (F 6), .ref (F 7), .int (nI ck)])), pt (F 4) (.inl (2, 6, .inr (.inr (.inr (.inr (adD DL))))))]) (L2 := [row (F 0) 400 tp, row (F 1) 253 an, row (F 2) 253 hr, row (F 3) 253 cm, wire (F 6) fr wv hs, mst (F 7) M z, lst dve DL]) rfl isO_pt 0 rfl dX11_spread_28 rfl cv_X11_82 (k_deviceOf1 (by omega) he) rfl rfl (Nat.le_of_ble_eq_true rfl) ⟨by decide, by omega, by omega⟩ (fun r1 L1 h q hL => ?_)
      obtain ⟨rfl, rfl⟩ := q
      have hL : stars [pt o (.inr (9, [.ref (F 0), .ref (F 1), .ref (F 2), .ref (F 3), .ref (F 4), .int (nI DL.length), .ref (F 6), .ref (F 7), .int (nI ck)])), pt (F 4) (.inl (2, 6, .inr (.inr (.inr (.inr (adD DL)))))), row (F 0) 400 tp, row (F 1) 253 an, row (F 2) 253 hr, row (F 3) 253 cm, wire (F 6) fr wv hs, mst (F 7) M z, lst dve DL] h := hL
      have hL : stars [pt o (.inr (9, [.ref (F 0), .ref (F 1), .ref (F 2), .ref (F 3), .ref (F 4), .int (nI DL.length), .ref (F 6), .ref (F 7), .int (nI ck)])), row (F 0) 400 tp, row (F 1) 253 an, row (F 2) 253 hr, row (F 3) 253 cm, pt (F 4) (.inl (2, 6, .inr (.inr (.inr (.inr (adD DL)))))), wire (F 6) fr wv hs, mst (F 7) M z, lst dve DL] h := stars_ixn hL 9 rfl [0, 2, 3, 4, 5, 1, 6, 7, 8] (by decide) rfl
      refine e_astore 33 (ls' := [some (.ref o), some (.int (nI who)), some (.int (nI b)), some (.int (nI i)), some (.ref d)]) dX11_spread_31 rfl (by decide) rfl ?_
      refine e_aload 35 dX11_spread_33 rfl rfl ?_
      refine e_ifnull 38 dX11_spread_35 rfl ?_
      refine e_iload_n 39 dX11_spread_38 rfl rfl ?_
      refine e_iconst 40 (v := (nI 2)) dX11_spread_39 rfl (by decide) ?_
      refine e_iload_n 41 dX11_spread_40 rfl rfl ?_
      refine e_iadd 42 (v := (nI (2 + i))) dX11_spread_41 rfl (nI_add 2 i) ?_
      refine e_icmp_eq 54 45 dX11_spread_42 rfl rfl (fun c42 => ?_) (fun c42 => ?_)
      · have k42 := j_eq_t (a := who) (b := (2 + i)) (by omega) (by omega) c42
        refine e_iinc 57 (v := (nI (i + 1))) (ls' := [some (.ref o), some (.int (nI who)), some (.int (nI b)), some (.int (nI (i + 1))), some (.ref d)]) dX11_spread_54 rfl rfl (nI_add i 1) (by decide) rfl ?_
        refine e_goto 18 dX11_spread_57 rfl ?_
        refine e_wk [some (.ref o), some (.int (nI who)), some (.int (nI b)), some (.int (nI (i + 1))), none] ⟨rfl, rfl, rfl, rfl, trivial⟩ ?_
        exact ih (i + 1) DL hr cm h (by omega) (by omega) (dv_id hD he (if_pos (show who = 2 + i by omega))) hDn hL
      · have k42 := j_eq_f (a := who) (b := (2 + i)) (by omega) (by omega) c42
        have hL : stars [lst dve DL, pt o (.inr (9, [.ref (F 0), .ref (F 1), .ref (F 2), .ref (F 3), .ref (F 4), .int (nI DL.length), .ref (F 6), .ref (F 7), .int (nI ck)])), row (F 0) 400 tp, row (F 1) 253 an, row (F 2) 253 hr, row (F 3) 253 cm, pt (F 4) (.inl (2, 6, .inr (.inr (.inr (.inr (adD DL)))))), wire (F 6) fr wv hs, mst (F 7) M z] h := stars_ixn hL 9 rfl [8, 0, 1, 2, 3, 4, 5, 6, 7] (by decide) rfl
        obtain ⟨A, hL⟩ := dev_o (dev_at he hL)
        have hL : stars [pt d (.inr (1, [.int (nI (v 0)), .int (nI (v 1)), .int (nI (v 2)), .ref (A 3), .ref (A 4), .ref (A 5), .ref (A 6), .ref (A 7), .int (nI (v 8)), .ref (A 9), .ref (A 10), .ref (A 11), .ref (A 12), .ref (A 13), .ref (A 14), .ref (A 15), .ref (A 16), .int (nI (v 17)), .int (nI (v 18)), .int (bI (B 0))])), bank (A 3) 1 (bf 0) (L 0), bank (A 4) 1 (bf 1) (L 1), bank (A 5) 65535 (bf 2) (L 2), bank (A 6) 65535 (bf 3) (L 3), pt (A 7) (.inl (0, 32, .inl (fun i => nI (lm i)))), shf (A 9) 4 120 (S 0), shf (A 10) 4 40 (S 1), shf (A 11) 10 40 (S 2), row (A 12) 48 (L 4), pt (A 13) (.inl (0, 9, .inl (fun i => nI (ct i)))), row (A 14) 64 (L 5), stn (A 15) (L 6) (v 20) (B 1) (B 2), row (A 16) 253 (L 7), lst dve (DL.eraseIdx i), pt o (.inr (9, [.ref (F 0), .ref (F 1), .ref (F 2), .ref (F 3), .ref (F 4), .int (nI DL.length), .ref (F 6), .ref (F 7), .int (nI ck)])), row (F 0) 400 tp, row (F 1) 253 an, row (F 2) 253 hr, row (F 3) 253 cm, pt (F 4) (.inl (2, 6, .inr (.inr (.inr (.inr (adD DL)))))), wire (F 6) fr wv hs, mst (F 7) M z] h := hL
        refine e_aload 47 dX11_spread_45 rfl rfl ?_
        refine e_get 50 dX11_spread_47 rfl fl_X11_278_1 (stars_at _ 0 hL rfl) rfl ?_
        refine e_iload_n 51 dX11_spread_50 rfl rfl ?_
        refine p_callV 54 hL [12, 0, 1, 2, 3, 4, 5, 6, 7, 8, 9, 10, 11, 13, 14, 15, 16, 17, 18, 19, 20, 21, 22] 23 rfl (by decide) (L1 := [stn (A 15) (L 6) (v 20) (B 1) (B 2)]) (L2 := [pt d (.inr (1, [.int (nI (v 0)), .int (nI (v 1)), .int (nI (v 2)), .ref (A 3), .ref (A 4), .ref (A 5), .ref (A 6), .ref (A 7), .int (nI (v 8)), .ref (A 9), .ref (A 10), .ref (A 11), .ref (A 12), .ref (A 13), .ref (A 14), .ref (A 15), .ref (A 16), .int (nI (v 17)), .int (nI (v 18)), .int (bI (B 0))])), bank (A 3) 1 (bf 0) (L 0), bank (A 4) 1 (bf 1) (L 1), bank (A 5) 65535 (bf 2) (L 2), bank (A 6) 65535 (bf 3) (L 3), pt (A 7) (.inl (0, 32, .inl (fun i => nI (lm i)))), shf (A 9) 4 120 (S 0), shf (A 10) 4 40 (S 1), shf (A 11) 10 40 (S 2), row (A 12) 48 (L 4), pt (A 13) (.inl (0, 9, .inl (fun i => nI (ct i)))), row (A 14) 64 (L 5), row (A 16) 253 (L 7), lst dve (DL.eraseIdx i), pt o (.inr (9, [.ref (F 0), .ref (F 1), .ref (F 2), .ref (F 3), .ref (F 4), .int (nI DL.length), .ref (F 6), .ref (F 7), .int (nI ck)])), row (F 0) 400 tp, row (F 1) 253 an, row (F 2) 253 hr, row (F 3) 253 cm, pt (F 4) (.inl (2, 6, .inr (.inr (.inr (.inr (adD DL)))))), wire (F 6) fr wv hs, mst (F 7) M z]) rfl stn_O 12 rfl dX11_spread_51 rfl cv_X11_273 (k_X9_hear hv20) rfl rfl (Nat.le_of_ble_eq_true rfl) ⟨by decide, by omega, by omega⟩ (fun r1 L1 h q hL => ?_)
        obtain ⟨rfl, rfl⟩ := q
        have hL : stars [stn (A 15) (hrR (L 6) b) 0 (hrS (L 6) (v 20) (B 1)) (hrO (L 6) (B 2)), pt d (.inr (1, [.int (nI (v 0)), .int (nI (v 1)), .int (nI (v 2)), .ref (A 3), .ref (A 4), .ref (A 5), .ref (A 6), .ref (A 7), .int (nI (v 8)), .ref (A 9), .ref (A 10), .ref (A 11), .ref (A 12), .ref (A 13), .ref (A 14), .ref (A 15), .ref (A 16), .int (nI (v 17)), .int (nI (v 18)), .int (bI (B 0))])), bank (A 3) 1 (bf 0) (L 0), bank (A 4) 1 (bf 1) (L 1), bank (A 5) 65535 (bf 2) (L 2), bank (A 6) 65535 (bf 3) (L 3), pt (A 7) (.inl (0, 32, .inl (fun i => nI (lm i)))), shf (A 9) 4 120 (S 0), shf (A 10) 4 40 (S 1), shf (A 11) 10 40 (S 2), row (A 12) 48 (L 4), pt (A 13) (.inl (0, 9, .inl (fun i => nI (ct i)))), row (A 14) 64 (L 5), row (A 16) 253 (L 7), lst dve (DL.eraseIdx i), pt o (.inr (9, [.ref (F 0), .ref (F 1), .ref (F 2), .ref (F 3), .ref (F 4), .int (nI DL.length), .ref (F 6), .ref (F 7), .int (nI ck)])), row (F 0) 400 tp, row (F 1) 253 an, row (F 2) 253 hr, row (F 3) 253 cm, pt (F 4) (.inl (2, 6, .inr (.inr (.inr (.inr (adD DL)))))), wire (F 6) fr wv hs, mst (F 7) M z] h := hL
        have hL : stars [pt d (.inr (1, [.int (nI (v 0)), .int (nI (v 1)), .int (nI (v 2)), .ref (A 3), .ref (A 4), .ref (A 5), .ref (A 6), .ref (A 7), .int (nI (v 8)), .ref (A 9), .ref (A 10), .ref (A 11), .ref (A 12), .ref (A 13), .ref (A 14), .ref (A 15), .ref (A 16), .int (nI (v 17)), .int (nI (v 18)), .int (bI (B 0))])), bank (A 3) 1 (bf 0) (L 0), bank (A 4) 1 (bf 1) (L 1), bank (A 5) 65535 (bf 2) (L 2), bank (A 6) 65535 (bf 3) (L 3), pt (A 7) (.inl (0, 32, .inl (fun i => nI (lm i)))), shf (A 9) 4 120 (S 0), shf (A 10) 4 40 (S 1), shf (A 11) 10 40 (S 2), row (A 12) 48 (L 4), pt (A 13) (.inl (0, 9, .inl (fun i => nI (ct i)))), row (A 14) 64 (L 5), stn (A 15) (hrR (L 6) b) 0 (hrS (L 6) (v 20) (B 1)) (hrO (L 6) (B 2)), row (A 16) 253 (L 7), lst dve (DL.eraseIdx i), pt o (.inr (9, [.ref (F 0), .ref (F 1), .ref (F 2), .ref (F 3), .ref (F 4), .int (nI DL.length), .ref (F 6), .ref (F 7), .int (nI ck)])), row (F 0) 400 tp, row (F 1) 253 an, row (F 2) 253 hr, row (F 3) 253 cm, pt (F 4) (.inl (2, 6, .inr (.inr (.inr (.inr (adD DL)))))), wire (F 6) fr wv hs, mst (F 7) M z] h := stars_ixn hL 23 rfl [1, 2, 3, 4, 5, 6, 7, 8, 9, 10, 11, 12, 0, 13, 14, 15, 16, 17, 18, 19, 20, 21, 22] (by decide) rfl
        have hL := dev_c (A := A) (v := (upN v 20 0)) (bf := bf) (lm := lm) (ct := ct) (L := (upL L 6 (hrR (L 6) b))) (S := S) (B := (upB (upB B 1 (hrS (L 6) (v 20) (B 1))) 2 (hrO (L 6) (B 2)))) hL
        have hL : stars [dev d ((upN v 20 0), bf, lm, ct, (upL L 6 (hrR (L 6) b)), S, (upB (upB B 1 (hrS (L 6) (v 20) (B 1))) 2 (hrO (L 6) (B 2)))), lst dve (DL.eraseIdx i), pt o (.inr (9, [.ref (F 0), .ref (F 1), .ref (F 2), .ref (F 3), .ref (F 4), .int (nI DL.length), .ref (F 6), .ref (F 7), .int (nI ck)])), row (F 0) 400 tp, row (F 1) 253 an, row (F 2) 253 hr, row (F 3) 253 cm, pt (F 4) (.inl (2, 6, .inr (.inr (.inr (.inr (adD DL)))))), wire (F 6) fr wv hs, mst (F 7) M z] h := hL
        have hL := lst_c (f := dve) (x := (d, ((upN v 20 0), bf, lm, ct, (upL L 6 (hrR (L 6) b)), S, (upB (upB B 1 (hrS (L 6) (v 20) (B 1))) 2 (hrO (L 6) (B 2)))))) i hi hL
        rw [show adD DL = adD (DL.set i (d, ((upN v 20 0), bf, lm, ct, (upL L 6 (hrR (L 6) b)), S, (upB (upB B 1 (hrS (L 6) (v 20) (B 1))) 2 (hrO (L 6) (B 2)))))) from adD_set he ((upN v 20 0), bf, lm, ct, (upL L 6 (hrR (L 6) b)), S, (upB (upB B 1 (hrS (L 6) (v 20) (B 1))) 2 (hrO (L 6) (B 2)))), ← List.length_set (as := DL) (i := i) (a := (d, ((upN v 20 0), bf, lm, ct, (upL L 6 (hrR (L 6) b)), S, (upB (upB B 1 (hrS (L 6) (v 20) (B 1))) 2 (hrO (L 6) (B 2))))))] at hL
        have hL : stars [lst dve (DL.set i (d, ((upN v 20 0), bf, lm, ct, (upL L 6 (hrR (L 6) b)), S, (upB (upB B 1 (hrS (L 6) (v 20) (B 1))) 2 (hrO (L 6) (B 2)))))), pt o (.inr (9, [.ref (F 0), .ref (F 1), .ref (F 2), .ref (F 3), .ref (F 4), .int (nI (DL.set i (d, ((upN v 20 0), bf, lm, ct, (upL L 6 (hrR (L 6) b)), S, (upB (upB B 1 (hrS (L 6) (v 20) (B 1))) 2 (hrO (L 6) (B 2)))))).length), .ref (F 6), .ref (F 7), .int (nI ck)])), row (F 0) 400 tp, row (F 1) 253 an, row (F 2) 253 hr, row (F 3) 253 cm, pt (F 4) (.inl (2, 6, .inr (.inr (.inr (.inr (adD (DL.set i (d, ((upN v 20 0), bf, lm, ct, (upL L 6 (hrR (L 6) b)), S, (upB (upB B 1 (hrS (L 6) (v 20) (B 1))) 2 (hrO (L 6) (B 2)))))))))))), wire (F 6) fr wv hs, mst (F 7) M z] h := hL
        refine e_iinc 57 (v := (nI (i + 1))) (ls' := [some (.ref o), some (.int (nI who)), some (.int (nI b)), some (.int (nI (i + 1))), some (.ref d)]) dX11_spread_54 rfl rfl (nI_add i 1) (by decide) rfl ?_
        refine e_goto 18 dX11_spread_57 rfl ?_
        refine e_wk [some (.ref o), some (.int (nI who)), some (.int (nI b)), some (.int (nI (i + 1))), none] ⟨rfl, rfl, rfl, rfl, trivial⟩ ?_
        have hL : stars [pt o (.inr (9, [.ref (F 0), .ref (F 1), .ref (F 2), .ref (F 3), .ref (F 4), .int (nI (DL.set i (d, ((upN v 20 0), bf, lm, ct, (upL L 6 (hrR (L 6) b)), S, (upB (upB B 1 (hrS (L 6) (v 20) (B 1))) 2 (hrO (L 6) (B 2)))))).length), .ref (F 6), .ref (F 7), .int (nI ck)])), row (F 0) 400 tp, row (F 1) 253 an, row (F 2) 253 hr, row (F 3) 253 cm, pt (F 4) (.inl (2, 6, .inr (.inr (.inr (.inr (adD (DL.set i (d, ((upN v 20 0), bf, lm, ct, (upL L 6 (hrR (L 6) b)), S, (upB (upB B 1 (hrS (L 6) (v 20) (B 1))) 2 (hrO (L 6) (B 2)))))))))))), wire (F 6) fr wv hs, mst (F 7) M z, lst dve (DL.set i (d, ((upN v 20 0), bf, lm, ct, (upL L 6 (hrR (L 6) b)), S, (upB (upB B 1 (hrS (L 6) (v 20) (B 1))) 2 (hrO (L 6) (B 2))))))] h := stars_ixn hL 9 rfl [1, 2, 3, 4, 5, 6, 7, 8, 0] (by decide) rfl
        exact ih (i + 1) (DL.set i (d, ((upN v 20 0), bf, lm, ct, (upL L 6 (hrR (L 6) b)), S, (upB (upB B 1 (hrS (L 6) (v 20) (B 1))) 2 (hrO (L 6) (B 2)))))) hr cm h (by omega) (by omega) (dv_set hD he (if_neg (show ¬ who = 2 + i by omega))) (by rw [List.length_set]; exact hDn) hL
