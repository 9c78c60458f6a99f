/-! FieldLine: the tape -/
theorem ushr16 (x : Int32) : (x.toUInt32 >>> ((nI 16).toUInt32 &&& Int32.toUInt32 31)).toInt32 = nI (x.toBitVec.toNat / 2 ^ 16) := by
  have h := pk_ushr x (nI 16) 16 (by decide)
  have h2 := x.toBitVec.isLt
  apply Int32.toBitVec_inj.mp
  apply BitVec.eq_of_toNat_eq
  rw [h, pk_tn (by omega)]
/-- the bytes of a number -/
def f4 (x : Int32) : List Nat := w2 (x.toBitVec.toNat / 2 ^ 16) ++ w2 (x.toBitVec.toNat % 2 ^ 16)
theorem f4_len {x : Int32} : (f4 x).length = 4 := rfl
def fdG (g : GS) (a b c d e : Int32) : GS := if g.1.length + 20 ≤ 400 then (g.1 ++ f4 a ++ f4 b ++ f4 c ++ f4 d ++ f4 e, g.2) else g
def fdR (g : GS) : Int32 := if g.1.length + 20 ≤ 400 then nI (g.1.length + 20) else -1
def enG (g : GS) (x : Int32) : GS := if inI x (nI 0) (nI g.1.length) then (g.1.take x.toNatClampNeg, g.2) else g
def enR (g : GS) (x : Int32) : Int32 := if inI x (nI 0) (nI g.1.length) then x else -1
set_option maxRecDepth 20000 in
set_option maxHeartbeats 2000000 in
theorem k_X11_feedNumber {o n ck : Nat} {F : Nat → Nat} {tp : List Nat} {x : Int32} (hl : tp.length + 4 ≤ 400) : CA mX11_feedNumber [.ref o, .int x] [pt o (.inr (9, [.ref (F 0), .ref (F 1), .ref (F 2), .ref (F 3), .ref (F 4), .int (nI n), .ref (F 6), .ref (F 7), .int (nI ck)])), row (F 0) 400 tp] (fun r K => r = none ∧ K = [pt o (.inr (9, [.ref (F 0), .ref (F 1), .ref (F 2), .ref (F 3), .ref (F 4), .int (nI n), .ref (F 6), .ref (F 7), .int (nI ck)])), row (F 0) 400 (tp ++ f4 x)]) 1 30 0 0 := by
  refine CA.mk 0 (ls := [some (.ref o), some (.int x)]) rfl rfl (Nat.le_of_ble_eq_true rfl) rfl (fun h hL => ?_)
  have hx := x.toBitVec.isLt
  refine e_aload_n 1 dX11_feedNumber_0 rfl rfl ?_
  refine e_get 4 dX11_feedNumber_1 rfl fl_X11_14_9 (stars_at _ 0 hL rfl) rfl ?_
  refine e_iload_n 5 dX11_feedNumber_4 rfl rfl ?_
  refine e_bipush 7 (v := (nI 16)) dX11_feedNumber_5 rfl (by decide) ?_
  refine e_iushr 8 (v := (nI (x.toBitVec.toNat / 2 ^ 16))) dX11_feedNumber_7 rfl (ushr16 x) ?_
  refine p_callV 11 hL [1, 0] 2 rfl (by decide) (L1 := [row (F 0) 400 tp]) (L2 := [pt o (.inr (9, [.ref (F 0), .ref (F 1), .ref (F 2), .ref (F 3), .ref (F 4), .int (nI n), .ref (F 6), .ref (F 7), .int (nI ck)]))]) rfl row_O 1 rfl dX11_feedNumber_8 rfl cv_X11_60 (k_add2 (by omega) (by first | omega | (simp only [List.length_append, w2_len]; omega))) rfl rfl (Nat.le_of_ble_eq_true rfl) ⟨by decide, by omega, by omega⟩ (fun r1 L1 h q hL => ?_)
  obtain ⟨rfl, rfl⟩ := q
  have hL : stars [row (F 0) 400 (tp ++ w2 (x.toBitVec.toNat / 2 ^ 16)), pt o (.inr (9, [.ref (F 0), .ref (F 1), .ref (F 2), .ref (F 3), .ref (F 4), .int (nI n), .ref (F 6), .ref (F 7), .int (nI ck)]))] h := hL
  have hL : stars [pt o (.inr (9, [.ref (F 0), .ref (F 1), .ref (F 2), .ref (F 3), .ref (F 4), .int (nI n), .ref (F 6), .ref (F 7), .int (nI ck)])), row (F 0) 400 (tp ++ w2 (x.toBitVec.toNat / 2 ^ 16))] h := stars_ixn hL 2 rfl [1, 0] (by decide) rfl
  refine e_aload_n 12 dX11_feedNumber_11 rfl rfl ?_
  refine e_get 15 dX11_feedNumber_12 rfl fl_X11_14_9 (stars_at _ 0 hL rfl) rfl ?_
  refine e_iload_n 16 dX11_feedNumber_15 rfl rfl ?_
  refine e_ldc 18 (v := (nI 65535)) dX11_feedNumber_16 rfl cn_X11_63 ?_
  refine e_iand 19 (v := (nI (x.toBitVec.toNat % 2 ^ 16))) dX11_feedNumber_18 rfl (pk_and x 16 (by decide)) ?_
  refine p_callV 22 hL [1, 0] 2 rfl (by decide) (L1 := [row (F 0) 400 (tp ++ w2 (x.toBitVec.toNat / 2 ^ 16))]) (L2 := [pt o (.inr (9, [.ref (F 0), .ref (F 1), .ref (F 2), .ref (F 3), .ref (F 4), .int (nI n), .ref (F 6), .ref (F 7), .int (nI ck)]))]) rfl row_O 1 rfl dX11_feedNumber_19 rfl cv_X11_60 (k_add2 (by omega) (by first | omega | (simp only [List.length_append, w2_len]; omega))) rfl rfl (Nat.le_of_ble_eq_true rfl) ⟨by decide, by omega, by omega⟩ (fun r1 L1 h q hL => ?_)
  obtain ⟨rfl, rfl⟩ := q
  have hL : stars [row (F 0) 400 ((tp ++ w2 (x.toBitVec.toNat / 2 ^ 16)) ++ w2 (x.toBitVec.toNat % 2 ^ 16)), pt o (.inr (9, [.ref (F 0), .ref (F 1), .ref (F 2), .ref (F 3), .ref (F 4), .int (nI n), .ref (F 6), .ref (F 7), .int (nI ck)]))] h := hL
  have hL : stars [pt o (.inr (9, [.ref (F 0), .ref (F 1), .ref (F 2), .ref (F 3), .ref (F 4), .int (nI n), .ref (F 6), .ref (F 7), .int (nI ck)])), row (F 0) 400 ((tp ++ w2 (x.toBitVec.toNat / 2 ^ 16)) ++ w2 (x.toBitVec.toNat % 2 ^ 16))] h := stars_ixn hL 2 rfl [1, 0] (by decide) rfl
  exact e_vret dX11_feedNumber_22 rfl (by omega) (by omega) (⟨_, ⟨rfl, by rw [f4, ← List.append_assoc]⟩, hL⟩)
set_option maxRecDepth 20000 in
set_option maxHeartbeats 2000000 in
theorem k_X11_feed {o : Nat} {tp an fr : List Nat} {D : List DS} {wv : Nat → Nat} {hs : List (Nat × Nat)} {M : MS} {ck : Nat} {z : HD} {a b c d e : Int32} : CA mX11_feed [.ref o, .int a, .int b, .int c, .int d, .int e] [flo o (tp, an, D, (fr, wv, hs), M, ck) z] (fun r K => r = some (.int (fdR (tp, an, D, (fr, wv, hs), M, ck))) ∧ K = [flo o (fdG (tp, an, D, (fr, wv, hs), M, ck) a b c d e) z]) 2 56 0 0 := by
  refine CA.mk 0 (ls := [some (.ref o), some (.int a), some (.int b), some (.int c), some (.int d), some (.int e)]) rfl rfl (Nat.le_of_ble_eq_true rfl) rfl (fun h hL => ?_)
  obtain ⟨F, DL, hr, cm, hD, hl6, hL⟩ := flo_o hL
  have hL : stars [pt o (.inr (9, [.ref (F 0), .ref (F 1), .ref (F 2), .ref (F 3), .ref (F 4), .int (nI DL.length), .ref (F 6), .ref (F 7), .int (nI ck)])), row (F 0) 400 tp, row (F 1) 253 an, row (F 2) 253 hr, row (F 3) 253 cm, pt (F 4) (.inl (2, 6, .inr (.inr (.inr (.inr (adD DL)))))), wire (F 6) fr wv hs, mst (F 7) M z, lst dve DL] h := hL
  have hDl : D.length = DL.length := gD_len hD
  have htl := row_len _ 1 hL rfl
  refine e_aload_n 1 dX11_feed_0 rfl rfl ?_
  refine e_get 4 dX11_feed_1 rfl fl_X11_14_9 (stars_at _ 0 hL rfl) rfl ?_
  obtain ⟨z4, y4⟩ := row_at _ 1 hL rfl
  refine e_get 7 dX11_feed_4 rfl fl_X11_54_4 y4 rfl ?_
  refine e_bipush 9 (v := (nI 20)) dX11_feed_7 rfl (by decide) ?_
  refine e_iadd 10 (v := (nI (tp.length + 20))) dX11_feed_9 rfl (nI_add tp.length 20) ?_
  refine e_sipush 13 (v := (nI 400)) dX11_feed_10 rfl (by decide) ?_
  refine e_icmp_le 18 16 dX11_feed_13 rfl rfl (fun c13 => ?_) (fun c13 => ?_)
  · have k13 := j_le_t (a := (tp.length + 20)) (b := 400) (by omega) (by omega) c13
    refine e_aload_n 19 dX11_feed_18 rfl rfl ?_
    refine e_iload_n 20 dX11_feed_19 rfl rfl ?_
    refine p_callV 23 hL [0, 1, 2, 3, 4, 5, 6, 7, 8] 9 rfl (by decide) (L1 := [pt o (.inr (9, [.ref (F 0), .ref (F 1), .ref (F 2), .ref (F 3), .ref (F 4), .int (nI DL.length), .ref (F 6), .ref (F 7), .int (nI ck)])), row (F 0) 400 tp]) (L2 := [row (F 1) 253 an, row (F 2) 253 hr, row (F 3) 253 cm, pt (F 4) (.inl (2, 6, .inr (.inr (.inr (.inr (adD DL)))))), wire (F 6) fr wv hs, mst (F 7) M z, lst dve DL]) rfl isO_pt 0 rfl dX11_feed_20 rfl cv_X11_57 (k_X11_feedNumber (by first | omega | (simp only [List.length_append, f4_len]; omega))) rfl rfl (Nat.le_of_ble_eq_true rfl) ⟨by decide, by omega, by omega⟩ (fun r1 L1 h q hL => ?_)
    obtain ⟨rfl, rfl⟩ := q
    have hL : stars [pt o (.inr (9, [.ref (F 0), .ref (F 1), .ref (F 2), .ref (F 3), .ref (F 4), .int (nI DL.length), .ref (F 6), .ref (F 7), .int (nI ck)])), row (F 0) 400 (tp ++ f4 a), row (F 1) 253 an, row (F 2) 253 hr, row (F 3) 253 cm, pt (F 4) (.inl (2, 6, .inr (.inr (.inr (.inr (adD DL)))))), wire (F 6) fr wv hs, mst (F 7) M z, lst dve DL] h := hL
    refine e_aload_n 24 dX11_feed_23 rfl rfl ?_
    refine e_iload_n 25 dX11_feed_24 rfl rfl ?_
    refine p_callV 28 hL [0, 1, 2, 3, 4, 5, 6, 7, 8] 9 rfl (by decide) (L1 := [pt o (.inr (9, [.ref (F 0), .ref (F 1), .ref (F 2), .ref (F 3), .ref (F 4), .int (nI DL.length), .ref (F 6), .ref (F 7), .int (nI ck)])), row (F 0) 400 (tp ++ f4 a)]) (L2 := [row (F 1) 253 an, row (F 2) 253 hr, row (F 3) 253 cm, pt (F 4) (.inl (2, 6, .inr (.inr (.inr (.inr (adD DL)))))), wire (F 6) fr wv hs, mst (F 7) M z, lst dve DL]) rfl isO_pt 0 rfl dX11_feed_25 rfl cv_X11_57 (k_X11_feedNumber (by first | omega | (simp only [List.length_append, f4_len]; omega))) rfl rfl (Nat.le_of_ble_eq_true rfl) ⟨by decide, by omega, by omega⟩ (fun r1 L1 h q hL => ?_)
    obtain ⟨rfl, rfl⟩ := q
    have hL : stars [pt o (.inr (9, [.ref (F 0), .ref (F 1), .ref (F 2), .ref (F 3), .ref (F 4), .int (nI DL.length), .ref (F 6), .ref (F 7), .int (nI ck)])), row (F 0) 400 ((tp ++ f4 a) ++ f4 b), row (F 1) 253 an, row (F 2) 253 hr, row (F 3) 253 cm, pt (F 4) (.inl (2, 6, .inr (.inr (.inr (.inr (adD DL)))))), wire (F 6) fr wv hs, mst (F 7) M z, lst dve DL] h := hL
    refine e_aload_n 29 dX11_feed_28 rfl rfl ?_
    refine e_iload_n 30 dX11_feed_29 rfl rfl ?_
    refine p_callV 33 hL [0, 1, 2, 3, 4, 5, 6, 7, 8] 9 rfl (by decide) (L1 := [pt o (.inr (9, [.ref (F 0), .ref (F 1), .ref (F 2), .ref (F 3), .ref (F 4), .int (nI DL.length), .ref (F 6), .ref (F 7), .int (nI ck)])), row (F 0) 400 ((tp ++ f4 a) ++ f4 b)]) (L2 := [row (F 1) 253 an, row (F 2) 253 hr, row (F 3) 253 cm, pt (F 4) (.inl (2, 6, .inr (.inr (.inr (.inr (adD DL)))))), wire (F 6) fr wv hs, mst (F 7) M z, lst dve DL]) rfl isO_pt 0 rfl dX11_feed_30 rfl cv_X11_57 (k_X11_feedNumber (by first | omega | (simp only [List.length_append, f4_len]; omega))) rfl rfl (Nat.le_of_ble_eq_true rfl) ⟨by decide, by omega, by omega⟩ (fun r1 L1 h q hL => ?_)
    obtain ⟨rfl, rfl⟩ := q
    have hL : stars [pt o (.inr (9, [.ref (F 0), .ref (F 1), .ref (F 2), .ref (F 3), .ref (F 4), .int (nI DL.length), .ref (F 6), .ref (F 7), .int (nI ck)])), row (F 0) 400 (((tp ++ f4 a) ++ f4 b) ++ f4 c), row (F 1) 253 an, row (F 2) 253 hr, row (F 3) 253 cm, pt (F 4) (.inl (2, 6, .inr (.inr (.inr (.inr (adD DL)))))), wire (F 6) fr wv hs, mst (F 7) M z, lst dve DL] h := hL
    refine e_aload_n 34 dX11_feed_33 rfl rfl ?_
    refine e_iload 36 dX11_feed_34 rfl rfl ?_
    refine p_callV 39 hL [0, 1, 2, 3, 4, 5, 6, 7, 8] 9 rfl (by decide) (L1 := [pt o (.inr (9, [.ref (F 0), .ref (F 1), .ref (F 2), .ref (F 3), .ref (F 4), .int (nI DL.length), .ref (F 6), .ref (F 7), .int (nI ck)])), row (F 0) 400 (((tp ++ f4 a) ++ f4 b) ++ f4 c)]) (L2 := [row (F 1) 253 an, row (F 2) 253 hr, row (F 3) 253 cm, pt (F 4) (.inl (2, 6, .inr (.inr (.inr (.inr (adD DL)))))), wire (F 6) fr wv hs, mst (F 7) M z, lst dve DL]) rfl isO_pt 0 rfl dX11_feed_36 rfl cv_X11_57 (k_X11_feedNumber (by first | omega | (simp only [List.length_append, f4_len]; omega))) rfl rfl (Nat.le_of_ble_eq_true rfl) ⟨by decide, by omega, by omega⟩ (fun r1 L1 h q hL => ?_)
    obtain ⟨rfl, rfl⟩ := q
    have hL : stars [pt o (.inr (9, [.ref (F 0), .ref (F 1), .ref (F 2), .ref (F 3), .ref (F 4), .int (nI DL.length), .ref (F 6), .ref (F 7), .int (nI ck)])), row (F 0) 400 ((((tp ++ f4 a) ++ f4 b) ++ f4 c) ++ f4 d), row (F 1) 253 an, row (F 2) 253 hr, row (F 3) 253 cm, pt (F 4) (.inl (2, 6, .inr (.inr (.inr (.inr (adD DL)))))), wire (F 6) fr wv hs, mst (F 7) M z, lst dve DL] h := hL
    refine e_aload_n 40 dX11_feed_39 rfl rfl ?_
    refine e_iload 42 dX11_feed_40 rfl rfl ?_
    refine p_callV 45 hL [0, 1, 2, 3, 4, 5, 6, 7, 8] 9 rfl (by decide) (L1 := [pt o (.inr (9, [.ref (F 0), .ref (F 1), .ref (F 2), .ref (F 3), .ref (F 4), .int (nI DL.length), .ref (F 6), .ref (F 7), .int (nI ck)])), row (F 0) 400 ((((tp ++ f4 a) ++ f4 b) ++ f4 c) ++ f4 d)]) (L2 := [row (F 1) 253 an, row (F 2) 253 hr, row (F 3) 253 cm, pt (F 4) (.inl (2, 6, .inr (.inr (.inr (.inr (adD DL)))))), wire (F 6) fr wv hs, mst (F 7) M z, lst dve DL]) rfl isO_pt 0 rfl dX11_feed_42 rfl cv_X11_57 (k_X11_feedNumber (by first | omega | (simp only [List.length_append, f4_len]; omega))) rfl rfl (Nat.le_of_ble_eq_true rfl) ⟨by decide, by omega, by omega⟩ (fun r1 L1 h q hL => ?_)
    obtain ⟨rfl, rfl⟩ := q
    have hL : stars [pt o (.inr (9, [.ref (F 0), .ref (F 1), .ref (F 2), .ref (F 3), .ref (F 4), .int (nI DL.length), .ref (F 6), .ref (F 7), .int (nI ck)])), row (F 0) 400 (((((tp ++ f4 a) ++ f4 b) ++ f4 c) ++ f4 d) ++ f4 e), row (F 1) 253 an, row (F 2) 253 hr, row (F 3) 253 cm, pt (F 4) (.inl (2, 6, .inr (.inr (.inr (.inr (adD DL)))))), wire (F 6) fr wv hs, mst (F 7) M z, lst dve DL] h := hL
    refine e_aload_n 46 dX11_feed_45 rfl rfl ?_
    refine e_get 49 dX11_feed_46 rfl fl_X11_14_9 (stars_at _ 0 hL rfl) rfl ?_
    obtain ⟨z49, y49⟩ := row_at _ 1 hL rfl
    refine e_get 52 dX11_feed_49 rfl fl_X11_54_4 y49 rfl ?_
    exact e_iret dX11_feed_52 rfl (by omega) (by omega) (⟨_, ⟨by rw [fdR, if_pos (show tp.length + 20 ≤ 400 by omega)]; simp only [List.length_append, f4_len], by rw [fdG, if_pos (show tp.length + 20 ≤ 400 by omega)]⟩, flo_c (g := (tp ++ f4 a ++ f4 b ++ f4 c ++ f4 d ++ f4 e, an, D, (fr, wv, hs), M, ck)) (X := []) hD hl6 (stars_ixn hL 9 rfl [0, 1, 2, 3, 4, 5, 6, 7, 8] (by decide) rfl)⟩)
  · have k13 := j_le_f (a := (tp.length + 20)) (b := 400) (by omega) (by omega) c13
    refine e_iconst 17 (v := (-1)) dX11_feed_16 rfl (by decide) ?_
    exact e_iret dX11_feed_17 rfl (by omega) (by omega) (⟨_, ⟨by rw [fdR, if_neg (show ¬ tp.length + 20 ≤ 400 by omega)], by rw [fdG, if_neg (show ¬ tp.length + 20 ≤ 400 by omega)]⟩, flo_c (g := (tp, an, D, (fr, wv, hs), M, ck)) (X := []) hD hl6 (stars_ixn hL 9 rfl [0, 1, 2, 3, 4, 5, 6, 7, 8] (by decide) rfl)⟩)
set_option maxRecDepth 20000 in
set_option maxHeartbeats 2000000 in
theorem k_X11_end {o : Nat} {tp an fr : List Nat} {D : List DS} {wv : Nat → Nat} {hs : List (Nat × Nat)} {M : MS} {ck : Nat} {z : HD} {x : Int32} : CA mX11_end [.ref o, .int x] [flo o (tp, an, D, (fr, wv, hs), M, ck) z] (fun r K => r = some (.int (enR (tp, an, D, (fr, wv, hs), M, ck) x)) ∧ K = [flo o (enG (tp, an, D, (fr, wv, hs), M, ck) x) z]) 1 30 0 0 := by
  refine CA.mk 0 (ls := [some (.ref o), some (.int x)]) rfl rfl (Nat.le_of_ble_eq_true rfl) rfl (fun h hL => ?_)
  obtain ⟨F, DL, hr, cm, hD, hl6, hL⟩ := flo_o hL
  have hL : stars [pt o (.inr (9, [.ref (F 0), .ref (F 1), .ref (F 2), .ref (F 3), .ref (F 4), .int (nI DL.length), .ref (F 6), .ref (F 7), .int (nI ck)])), row (F 0) 400 tp, row (F 1) 253 an, row (F 2) 253 hr, row (F 3) 253 cm, pt (F 4) (.inl (2, 6, .inr (.inr (.inr (.inr (adD DL)))))), wire (F 6) fr wv hs, mst (F 7) M z, lst dve DL] h := hL
  have hDl : D.length = DL.length := gD_len hD
  have htl := row_len _ 1 hL rfl
  refine e_iload_n 1 dX11_end_0 rfl rfl ?_
  refine e_if_lt 15 4 dX11_end_1 rfl rfl (fun c1 => ?_) (fun c1 => ?_)
  · refine e_iconst 16 (v := (-1)) dX11_end_15 rfl (by decide) ?_
    exact e_iret dX11_end_16 rfl (by omega) (by omega) (⟨_, ⟨by rw [enR, if_neg (show ¬ inI x (nI 0) (nI tp.length) = true by rw [show inI x (nI 0) (nI tp.length) = false by simp only [inI, Bool.and_eq_false_iff, decide_eq_false_iff_not]; exact Or.inl (fun z => absurd (Int32.lt_of_le_of_lt z c1) (by decide))]; decide)], by rw [enG, if_neg (show ¬ inI x (nI 0) (nI tp.length) = true by rw [show inI x (nI 0) (nI tp.length) = false by simp only [inI, Bool.and_eq_false_iff, decide_eq_false_iff_not]; exact Or.inl (fun z => absurd (Int32.lt_of_le_of_lt z c1) (by decide))]; decide)]⟩, flo_c (g := (tp, an, D, (fr, wv, hs), M, ck)) (X := []) hD hl6 (stars_ixn hL 9 rfl [0, 1, 2, 3, 4, 5, 6, 7, 8] (by decide) rfl)⟩)
  · refine e_iload_n 5 dX11_end_4 rfl rfl ?_
    refine e_aload_n 6 dX11_end_5 rfl rfl ?_
    refine e_get 9 dX11_end_6 rfl fl_X11_14_9 (stars_at _ 0 hL rfl) rfl ?_
    obtain ⟨z9, y9⟩ := row_at _ 1 hL rfl
    refine e_get 12 dX11_end_9 rfl fl_X11_54_4 y9 rfl ?_
    refine e_icmp_le 17 15 dX11_end_12 rfl rfl (fun c12 => ?_) (fun c12 => ?_)
    · have kI : inI x (nI 0) (nI tp.length) = true := by simp only [inI, Bool.and_eq_true, decide_eq_true_eq]; exact ⟨Int32.not_lt.mp c1, c12⟩
      obtain ⟨n, rfl, na, nb⟩ := inI_nat (by first | decide | omega) (by first | decide | omega) kI
      refine e_aload_n 18 dX11_end_17 rfl rfl ?_
      refine e_get 21 dX11_end_18 rfl fl_X11_14_9 (stars_at _ 0 hL rfl) rfl ?_
      refine e_iload_n 22 dX11_end_21 rfl rfl ?_
      refine p_callV 25 hL [1, 0, 2, 3, 4, 5, 6, 7, 8] 9 rfl (by decide) (L1 := [row (F 0) 400 tp]) (L2 := [pt o (.inr (9, [.ref (F 0), .ref (F 1), .ref (F 2), .ref (F 3), .ref (F 4), .int (nI DL.length), .ref (F 6), .ref (F 7), .int (nI ck)])), row (F 1) 253 an, row (F 2) 253 hr, row (F 3) 253 cm, pt (F 4) (.inl (2, 6, .inr (.inr (.inr (.inr (adD DL)))))), wire (F 6) fr wv hs, mst (F 7) M z, lst dve DL]) rfl row_O 1 rfl dX11_end_22 rfl cv_X11_64 (k_X4_cut (by omega)) rfl rfl (Nat.le_of_ble_eq_true rfl) ⟨by decide, by omega, by omega⟩ (fun r1 L1 h q hL => ?_)
      obtain ⟨rfl, rfl⟩ := q
      have hL : stars [row (F 0) 400 (tp.take n), pt o (.inr (9, [.ref (F 0), .ref (F 1), .ref (F 2), .ref (F 3), .ref (F 4), .int (nI DL.length), .ref (F 6), .ref (F 7), .int (nI ck)])), row (F 1) 253 an, row (F 2) 253 hr, row (F 3) 253 cm, pt (F 4) (.inl (2, 6, .inr (.inr (.inr (.inr (adD DL)))))), wire (F 6) fr wv hs, mst (F 7) M z, lst dve DL] h := hL
      have hL : stars [pt o (.inr (9, [.ref (F 0), .ref (F 1), .ref (F 2), .ref (F 3), .ref (F 4), .int (nI DL.length), .ref (F 6), .ref (F 7), .int (nI ck)])), row (F 0) 400 (tp.take n), row (F 1) 253 an, row (F 2) 253 hr, row (F 3) 253 cm, pt (F 4) (.inl (2, 6, .inr (.inr (.inr (.inr (adD DL)))))), wire (F 6) fr wv hs, mst (F 7) M z, lst dve DL] h := stars_ixn hL 9 rfl [1, 0, 2, 3, 4, 5, 6, 7, 8] (by decide) rfl
      refine e_iload_n 26 dX11_end_25 rfl rfl ?_
      exact e_iret dX11_end_26 rfl (by omega) (by omega) (⟨_, ⟨by rw [enR, if_pos kI], by rw [enG, if_pos kI, nI_clamp (by omega)]⟩, flo_c (g := (tp.take n, an, D, (fr, wv, hs), M, ck)) (X := []) hD hl6 (stars_ixn hL 9 rfl [0, 1, 2, 3, 4, 5, 6, 7, 8] (by decide) rfl)⟩)
    · refine e_iconst 16 (v := (-1)) dX11_end_15 rfl (by decide) ?_
      exact e_iret dX11_end_16 rfl (by omega) (by omega) (⟨_, ⟨by rw [enR, if_neg (show ¬ inI x (nI 0) (nI tp.length) = true by rw [show inI x (nI 0) (nI tp.length) = false by simp only [inI, Bool.and_eq_false_iff, decide_eq_false_iff_not]; exact Or.inr c12]; decide)], by rw [enG, if_neg (show ¬ inI x (nI 0) (nI tp.length) = true by rw [show inI x (nI 0) (nI tp.length) = false by simp only [inI, Bool.and_eq_false_iff, decide_eq_false_iff_not]; exact Or.inr c12]; decide)]⟩, flo_c (g := (tp, an, D, (fr, wv, hs), M, ck)) (X := []) hD hl6 (stars_ixn hL 9 rfl [0, 1, 2, 3, 4, 5, 6, 7, 8] (by decide) rfl)⟩)
theorem k_sumAll {a cap : Nat} {r : List Nat} (hb : ∀ x ∈ r, x < 65536) (hm : r.length < 100000) : CA mX4_sumOf [.ref a, .int (nI r.length)] [row a cap r] (fun x L => x = some (.int (nI (crs r))) ∧ L = [row a cap r]) 0 0 0 0 := by
  have k := k_X4_sumOf (a := a) (cap := cap) hb hm
  rw [List.take_length] at k
  exact k
set_option maxRecDepth 20000 in
set_option maxHeartbeats 2000000 in
theorem k_X11_sum {o : Nat} {tp an fr : List Nat} {D : List DS} {wv : Nat → Nat} {hs : List (Nat × Nat)} {M : MS} {ck : Nat} {z : HD} (ht : ∀ x ∈ tp, x < 256) : CA mX11_sum [.ref o] [flo o (tp, an, D, (fr, wv, hs), M, ck) z] (fun r K => r = some (.int (nI (crs tp))) ∧ K = [flo o (tp, an, D, (fr, wv, hs), M, ck) z]) 1 30 0 0 := by
  refine CA.mk 0 (ls := [some (.ref o)]) rfl rfl (Nat.le_of_ble_eq_true rfl) rfl (fun h hL => ?_)
  obtain ⟨F, DL, hr, cm, hD, hl6, hL⟩ := flo_o hL
  have hL : stars [pt o (.inr (9, [.ref (F 0), .ref (F 1), .ref (F 2), .ref (F 3), .ref (F 4), .int (nI DL.length), .ref (F 6), .ref (F 7), .int (nI ck)])), row (F 0) 400 tp, row (F 1) 253 an, row (F 2) 253 hr, row (F 3) 253 cm, pt (F 4) (.inl (2, 6, .inr (.inr (.inr (.inr (adD DL)))))), wire (F 6) fr wv hs, mst (F 7) M z, lst dve DL] h := hL
  have hDl : D.length = DL.length := gD_len hD
  have htl := row_len _ 1 hL rfl
  refine e_aload_n 1 dX11_sum_0 rfl rfl ?_
  refine e_get 4 dX11_sum_1 rfl fl_X11_14_9 (stars_at _ 0 hL rfl) rfl ?_
  refine e_aload_n 5 dX11_sum_4 rfl rfl ?_
  refine e_get 8 dX11_sum_5 rfl fl_X11_14_9 (stars_at _ 0 hL rfl) rfl ?_
  obtain ⟨z8, y8⟩ := row_at _ 1 hL rfl
  refine e_get 11 dX11_sum_8 rfl fl_X11_54_4 y8 rfl ?_
  refine p_callV 14 hL [1, 0, 2, 3, 4, 5, 6, 7, 8] 9 rfl (by decide) (L1 := [row (F 0) 400 tp]) (L2 := [pt o (.inr (9, [.ref (F 0), .ref (F 1), .ref (F 2), .ref (F 3), .ref (F 4), .int (nI DL.length), .ref (F 6), .ref (F 7), .int (nI ck)])), row (F 1) 253 an, row (F 2) 253 hr, row (F 3) 253 cm, pt (F 4) (.inl (2, 6, .inr (.inr (.inr (.inr (adD DL)))))), wire (F 6) fr wv hs, mst (F 7) M z, lst dve DL]) rfl row_O 1 rfl dX11_sum_11 rfl cv_X11_67 (k_sumAll (fun x hx => Nat.lt_trans (ht x hx) (by decide)) (by omega)) rfl rfl (Nat.le_of_ble_eq_true rfl) ⟨by decide, by omega, by omega⟩ (fun r1 L1 h q hL => ?_)
  obtain ⟨rfl, rfl⟩ := q
  have hL : stars [row (F 0) 400 tp, pt o (.inr (9, [.ref (F 0), .ref (F 1), .ref (F 2), .ref (F 3), .ref (F 4), .int (nI DL.length), .ref (F 6), .ref (F 7), .int (nI ck)])), row (F 1) 253 an, row (F 2) 253 hr, row (F 3) 253 cm, pt (F 4) (.inl (2, 6, .inr (.inr (.inr (.inr (adD DL)))))), wire (F 6) fr wv hs, mst (F 7) M z, lst dve DL] h := hL
  have hL : stars [pt o (.inr (9, [.ref (F 0), .ref (F 1), .ref (F 2), .ref (F 3), .ref (F 4), .int (nI DL.length), .ref (F 6), .ref (F 7), .int (nI ck)])), row (F 0) 400 tp, row (F 1) 253 an, row (F 2) 253 hr, row (F 3) 253 cm, pt (F 4) (.inl (2, 6, .inr (.inr (.inr (.inr (adD DL)))))), wire (F 6) fr wv hs, mst (F 7) M z, lst dve DL] h := stars_ixn hL 9 rfl [1, 0, 2, 3, 4, 5, 6, 7, 8] (by decide) rfl
  exact e_iret dX11_sum_14 rfl (by omega) (by omega) (⟨_, ⟨rfl, rfl⟩, flo_c (g := (tp, an, D, (fr, wv, hs), M, ck)) (X := []) hD hl6 (stars_ixn hL 9 rfl [0, 1, 2, 3, 4, 5, 6, 7, 8] (by decide) rfl)⟩)
set_option maxRecDepth 20000 in
set_option maxHeartbeats 2000000 in
theorem k_X11_answer {o : Nat} {tp an fr : List Nat} {D : List DS} {wv : Nat → Nat} {hs : List (Nat × Nat)} {M : MS} {ck : Nat} {z : HD} {x : Int32} : CA mX11_answer [.ref o, .int x] [flo o (tp, an, D, (fr, wv, hs), M, ck) z] (fun r K => r = some (.int (gI an x)) ∧ K = [flo o (tp, an, D, (fr, wv, hs), M, ck) z]) 1 30 0 0 := by
  refine CA.mk 0 (ls := [some (.ref o), some (.int x)]) rfl rfl (Nat.le_of_ble_eq_true rfl) rfl (fun h hL => ?_)
  obtain ⟨F, DL, hr, cm, hD, hl6, hL⟩ := flo_o hL
  have hL : stars [pt o (.inr (9, [.ref (F 0), .ref (F 1), .ref (F 2), .ref (F 3), .ref (F 4), .int (nI DL.length), .ref (F 6), .ref (F 7), .int (nI ck)])), row (F 0) 400 tp, row (F 1) 253 an, row (F 2) 253 hr, row (F 3) 253 cm, pt (F 4) (.inl (2, 6, .inr (.inr (.inr (.inr (adD DL)))))), wire (F 6) fr wv hs, mst (F 7) M z, lst dve DL] h := hL
  have hDl : D.length = DL.length := gD_len hD
  refine e_aload_n 1 dX11_answer_0 rfl rfl ?_
  refine e_get 4 dX11_answer_1 rfl fl_X11_18_9 (stars_at _ 0 hL rfl) rfl ?_
  refine e_iload_n 5 dX11_answer_4 rfl rfl ?_
  refine p_callV 8 hL [2, 0, 1, 3, 4, 5, 6, 7, 8] 9 rfl (by decide) (L1 := [row (F 1) 253 an]) (L2 := [pt o (.inr (9, [.ref (F 0), .ref (F 1), .ref (F 2), .ref (F 3), .ref (F 4), .int (nI DL.length), .ref (F 6), .ref (F 7), .int (nI ck)])), row (F 0) 400 tp, row (F 2) 253 hr, row (F 3) 253 cm, pt (F 4) (.inl (2, 6, .inr (.inr (.inr (.inr (adD DL)))))), wire (F 6) fr wv hs, mst (F 7) M z, lst dve DL]) rfl row_O 2 rfl dX11_answer_5 rfl cv_X11_169 k_X4_orNone rfl rfl (Nat.le_of_ble_eq_true rfl) ⟨by decide, by omega, by omega⟩ (fun r1 L1 h q hL => ?_)
  obtain ⟨rfl, rfl⟩ := q
  have hL : stars [row (F 1) 253 an, pt o (.inr (9, [.ref (F 0), .ref (F 1), .ref (F 2), .ref (F 3), .ref (F 4), .int (nI DL.length), .ref (F 6), .ref (F 7), .int (nI ck)])), row (F 0) 400 tp, row (F 2) 253 hr, row (F 3) 253 cm, pt (F 4) (.inl (2, 6, .inr (.inr (.inr (.inr (adD DL)))))), wire (F 6) fr wv hs, mst (F 7) M z, lst dve DL] h := hL
  have hL : stars [pt o (.inr (9, [.ref (F 0), .ref (F 1), .ref (F 2), .ref (F 3), .ref (F 4), .int (nI DL.length), .ref (F 6), .ref (F 7), .int (nI ck)])), row (F 0) 400 tp, row (F 1) 253 an, row (F 2) 253 hr, row (F 3) 253 cm, pt (F 4) (.inl (2, 6, .inr (.inr (.inr (.inr (adD DL)))))), wire (F 6) fr wv hs, mst (F 7) M z, lst dve DL] h := stars_ixn hL 9 rfl [1, 2, 0, 3, 4, 5, 6, 7, 8] (by decide) rfl
  exact e_iret dX11_answer_8 rfl (by omega) (by omega) (⟨_, ⟨rfl, rfl⟩, flo_c (g := (tp, an, D, (fr, wv, hs), M, ck)) (X := []) hD hl6 (stars_ixn hL 9 rfl [0, 1, 2, 3, 4, 5, 6, 7, 8] (by decide) rfl)⟩)
set_option maxRecDepth 20000 in
set_option maxHeartbeats 2000000 in
theorem k_X11_sent {o : Nat} {tp an fr : List Nat} {D : List DS} {wv : Nat → Nat} {hs : List (Nat × Nat)} {M : MS} {ck : Nat} {z : HD} {x : Int32} : CA mX11_sent [.ref o, .int x] [flo o (tp, an, D, (fr, wv, hs), M, ck) z] (fun r K => r = some (.int (gI fr x)) ∧ K = [flo o (tp, an, D, (fr, wv, hs), M, ck) z]) 1 30 0 0 := by
  refine CA.mk 0 (ls := [some (.ref o), some (.int x)]) rfl rfl (Nat.le_of_ble_eq_true rfl) rfl (fun h hL => ?_)
  obtain ⟨F, DL, hr, cm, hD, hl6, hL⟩ := flo_o hL
  have hL : stars [pt o (.inr (9, [.ref (F 0), .ref (F 1), .ref (F 2), .ref (F 3), .ref (F 4), .int (nI DL.length), .ref (F 6), .ref (F 7), .int (nI ck)])), row (F 0) 400 tp, row (F 1) 253 an, row (F 2) 253 hr, row (F 3) 253 cm, pt (F 4) (.inl (2, 6, .inr (.inr (.inr (.inr (adD DL)))))), wire (F 6) fr wv hs, mst (F 7) M z, lst dve DL] h := hL
  have hDl : D.length = DL.length := gD_len hD
  refine e_aload_n 1 dX11_sent_0 rfl rfl ?_
  refine e_get 4 dX11_sent_1 rfl fl_X11_40_9 (stars_at _ 0 hL rfl) rfl ?_
  have hL : stars [wire (F 6) fr wv hs, pt o (.inr (9, [.ref (F 0), .ref (F 1), .ref (F 2), .ref (F 3), .ref (F 4), .int (nI DL.length), .ref (F 6), .ref (F 7), .int (nI ck)])), row (F 0) 400 tp, row (F 1) 253 an, row (F 2) 253 hr, row (F 3) 253 cm, pt (F 4) (.inl (2, 6, .inr (.inr (.inr (.inr (adD DL)))))), mst (F 7) M z, lst dve DL] h := stars_ixn hL 9 rfl [6, 0, 1, 2, 3, 4, 5, 7, 8] (by decide) rfl
  obtain ⟨wa, c1, c2, f1, f2, hw1, hw2, hL⟩ := wire_o hL
  have hL : stars [pt (F 6) (.inr (8, [.ref wa, .int (nI (wv 1)), .int (nI (wv 2)), .int (nI (wv 3)), .int (nI (wv 4)), .int (nI (wv 5)), .int (nI (wv 6)), .int (nI (wv 7)), .int (nI (wv 8)), .int (nI (wv 9)), .int (nI (wv 10)), .ref c1, .ref c2, .int (nI hs.length)])), row wa 256 fr, pt c1 (.inl (0, 64, .inl f1)), pt c2 (.inl (0, 64, .inl f2)), pt o (.inr (9, [.ref (F 0), .ref (F 1), .ref (F 2), .ref (F 3), .ref (F 4), .int (nI DL.length), .ref (F 6), .ref (F 7), .int (nI ck)])), row (F 0) 400 tp, row (F 1) 253 an, row (F 2) 253 hr, row (F 3) 253 cm, pt (F 4) (.inl (2, 6, .inr (.inr (.inr (.inr (adD DL)))))), mst (F 7) M z, lst dve DL] h := hL
  refine e_get 7 dX11_sent_4 rfl fl_X11_378_8 (stars_at _ 0 hL rfl) rfl ?_
  refine e_iload_n 8 dX11_sent_7 rfl rfl ?_
  refine p_callV 11 hL [1, 0, 2, 3, 4, 5, 6, 7, 8, 9, 10, 11] 12 rfl (by decide) (L1 := [row wa 256 fr]) (L2 := [pt (F 6) (.inr (8, [.ref wa, .int (nI (wv 1)), .int (nI (wv 2)), .int (nI (wv 3)), .int (nI (wv 4)), .int (nI (wv 5)), .int (nI (wv 6)), .int (nI (wv 7)), .int (nI (wv 8)), .int (nI (wv 9)), .int (nI (wv 10)), .ref c1, .ref c2, .int (nI hs.length)])), pt c1 (.inl (0, 64, .inl f1)), pt c2 (.inl (0, 64, .inl f2)), pt o (.inr (9, [.ref (F 0), .ref (F 1), .ref (F 2), .ref (F 3), .ref (F 4), .int (nI DL.length), .ref (F 6), .ref (F 7), .int (nI ck)])), row (F 0) 400 tp, row (F 1) 253 an, row (F 2) 253 hr, row (F 3) 253 cm, pt (F 4) (.inl (2, 6, .inr (.inr (.inr (.inr (adD DL)))))), mst (F 7) M z, lst dve DL]) rfl row_O 1 rfl dX11_sent_8 rfl cv_X11_169 k_X4_orNone rfl rfl (Nat.le_of_ble_eq_true rfl) ⟨by decide, by omega, by omega⟩ (fun r1 L1 h q hL => ?_)
  obtain ⟨rfl, rfl⟩ := q
  have hL : stars [row wa 256 fr, pt (F 6) (.inr (8, [.ref wa, .int (nI (wv 1)), .int (nI (wv 2)), .int (nI (wv 3)), .int (nI (wv 4)), .int (nI (wv 5)), .int (nI (wv 6)), .int (nI (wv 7)), .int (nI (wv 8)), .int (nI (wv 9)), .int (nI (wv 10)), .ref c1, .ref c2, .int (nI hs.length)])), pt c1 (.inl (0, 64, .inl f1)), pt c2 (.inl (0, 64, .inl f2)), pt o (.inr (9, [.ref (F 0), .ref (F 1), .ref (F 2), .ref (F 3), .ref (F 4), .int (nI DL.length), .ref (F 6), .ref (F 7), .int (nI ck)])), row (F 0) 400 tp, row (F 1) 253 an, row (F 2) 253 hr, row (F 3) 253 cm, pt (F 4) (.inl (2, 6, .inr (.inr (.inr (.inr (adD DL)))))), mst (F 7) M z, lst dve DL] h := hL
  have hL : stars [pt (F 6) (.inr (8, [.ref wa, .int (nI (wv 1)), .int (nI (wv 2)), .int (nI (wv 3)), .int (nI (wv 4)), .int (nI (wv 5)), .int (nI (wv 6)), .int (nI (wv 7)), .int (nI (wv 8)), .int (nI (wv 9)), .int (nI (wv 10)), .ref c1, .ref c2, .int (nI hs.length)])), row wa 256 fr, pt c1 (.inl (0, 64, .inl f1)), pt c2 (.inl (0, 64, .inl f2)), pt o (.inr (9, [.ref (F 0), .ref (F 1), .ref (F 2), .ref (F 3), .ref (F 4), .int (nI DL.length), .ref (F 6), .ref (F 7), .int (nI ck)])), row (F 0) 400 tp, row (F 1) 253 an, row (F 2) 253 hr, row (F 3) 253 cm, pt (F 4) (.inl (2, 6, .inr (.inr (.inr (.inr (adD DL)))))), mst (F 7) M z, lst dve DL] h := stars_ixn hL 12 rfl [1, 0, 2, 3, 4, 5, 6, 7, 8, 9, 10, 11] (by decide) rfl
  have hL := wire_c wv hL rfl hw1 hw2
  have hL : stars [wire (F 6) fr wv hs, pt o (.inr (9, [.ref (F 0), .ref (F 1), .ref (F 2), .ref (F 3), .ref (F 4), .int (nI DL.length), .ref (F 6), .ref (F 7), .int (nI ck)])), row (F 0) 400 tp, row (F 1) 253 an, row (F 2) 253 hr, row (F 3) 253 cm, pt (F 4) (.inl (2, 6, .inr (.inr (.inr (.inr (adD DL)))))), mst (F 7) M z, lst dve DL] h := hL
  exact e_iret dX11_sent_11 rfl (by omega) (by omega) (⟨_, ⟨rfl, rfl⟩, flo_c (g := (tp, an, D, (fr, wv, hs), M, ck)) (X := []) hD hl6 (stars_ixn hL 9 rfl [1, 2, 3, 4, 5, 6, 0, 7, 8] (by decide) rfl)⟩)
set_option maxRecDepth 20000 in
set_option maxHeartbeats 2000000 in
theorem k_X11_tapeIsPdu {o n ck : Nat} {F : Nat → Nat} {tp : List Nat} : CA mX11_tapeIsPdu [.ref o] [pt o (.inr (9, [.ref (F 0), .ref (F 1), .ref (F 2), .ref (F 3), .ref (F 4), .int (nI n), .ref (F 6), .ref (F 7), .int (nI ck)])), row (F 0) 400 tp] (fun r K => r = some (.int (bI (inN tp.length 1 253))) ∧ K = [pt o (.inr (9, [.ref (F 0), .ref (F 1), .ref (F 2), .ref (F 3), .ref (F 4), .int (nI n), .ref (F 6), .ref (F 7), .int (nI ck)])), row (F 0) 400 tp]) 1 30 0 0 := by
  refine CA.mk 0 (ls := [some (.ref o)]) rfl rfl (Nat.le_of_ble_eq_true rfl) rfl (fun h hL => ?_)
  have htl := row_len _ 1 hL rfl
  refine e_aload_n 1 dX11_tapeIsPdu_0 rfl rfl ?_
  refine e_get 4 dX11_tapeIsPdu_1 rfl fl_X11_14_9 (stars_at _ 0 hL rfl) rfl ?_
  obtain ⟨z4, y4⟩ := row_at _ 1 hL rfl
  refine e_get 7 dX11_tapeIsPdu_4 rfl fl_X11_54_4 y4 rfl ?_
  refine e_iconst 8 (v := (nI 1)) dX11_tapeIsPdu_7 rfl (by decide) ?_
  refine e_sipush 11 (v := (nI 253)) dX11_tapeIsPdu_8 rfl (by decide) ?_
  refine p_callS 14 hL [0, 1] 2 rfl (by decide) (L1 := []) (L2 := [pt o (.inr (9, [.ref (F 0), .ref (F 1), .ref (F 2), .ref (F 3), .ref (F 4), .int (nI n), .ref (F 6), .ref (F 7), .int (nI ck)])), row (F 0) 400 tp]) rfl dX11_tapeIsPdu_11 rfl cs_X11_71 (k_X11_within (by omega) (by omega) (by omega)) rfl rfl (Nat.le_of_ble_eq_true rfl) ⟨by decide, by omega, by omega⟩ (fun r1 L1 h q hL => ?_)
  obtain ⟨rfl, rfl⟩ := q
  have hL : stars [pt o (.inr (9, [.ref (F 0), .ref (F 1), .ref (F 2), .ref (F 3), .ref (F 4), .int (nI n), .ref (F 6), .ref (F 7), .int (nI ck)])), row (F 0) 400 tp] h := hL
  exact e_zret dX11_tapeIsPdu_14 rfl (bI_01 _) (by omega) (by omega) (⟨_, ⟨rfl, rfl⟩, hL⟩)
