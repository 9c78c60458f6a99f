/-! FieldLine: what is shown of the state -/
theorem ring_hd2 {α β : Type} {cap : Nat} {q : α → β} {L : List (Option α)} {hd : Nat} {R : List β} (h : ring cap q L hd R) (h0 : 0 < R.length) : ∃ j, L[hd]? = some (some j) ∧ ∀ d, R.headD d = q j := by
  cases R with
  | nil => exact absurd h0 (Nat.lt_irrefl 0)
  | cons e R =>
    obtain ⟨j, g, g2⟩ := ring_first h
    exact ⟨j, g, fun _ => g2⟩
theorem mst_rd (L : List sA) (i : Nat) {m : Nat} {s : MS} {z : HD} {h : eH} (hL : stars L h) (hi : L[i]? = some (mst m s z)) : ∃ A : Nat → Nat, h m = some (.inr (3, [.ref (A 0), .int (nI (s.1 1)), .int (nI (s.1 2)), .int (nI (s.1 3)), .int (nI (s.1 4)), .int (nI (s.1 5)), .ref (A 6), .int (nI z.1), .int (nI s.2.1.length), .int (nI (s.1 9)), .ref (A 10), .int (nI z.2.1), .int (nI s.2.2.1.length), .int (nI (s.1 13)), .int (nI (s.1 14)), .ref (A 15), .int (nI s.2.2.2.1.length)])) := by
  obtain ⟨h1, ⟨A, L1, L2, K, hR, p⟩, e⟩ := stars_part L i hL hi
  refine ⟨A, ?_⟩
  rw [k_len hR.2.2.2.2.1]
  exact e _ _ (stars_at _ 0 p rfl)
theorem wire_rd (L : List sA) (i : Nat) {w : Nat} {fr : List Nat} {v : Nat → Nat} {hs : List (Nat × Nat)} {h : eH} (hL : stars L h) (hi : L[i]? = some (wire w fr v hs)) : ∃ A : Nat → Nat, h w = some (.inr (8, [.ref (A 0), .int (nI (v 1)), .int (nI (v 2)), .int (nI (v 3)), .int (nI (v 4)), .int (nI (v 5)), .int (nI (v 6)), .int (nI (v 7)), .int (nI (v 8)), .int (nI (v 9)), .int (nI (v 10)), .ref (A 1), .ref (A 2), .int (nI hs.length)])) := by
  obtain ⟨h1, ⟨a, c1, c2, f1, f2, -, -, p⟩, e⟩ := stars_part L i hL hi
  exact ⟨fun i => if i = 0 then a else if i = 1 then c1 else c2, e _ _ (stars_at _ 0 p rfl)⟩
def rsN (e : RSE) : Nat → Nat
  | 0 => e.2.1
  | 1 => e.2.2.2.2.1
  | 2 => e.2.2.2.2.2
  | 3 => e.2.2.2.1
  | 4 => e.1.length
  | _ => e.2.2.1
def hdS (g : GS) : RSE := g.2.2.2.2.1.2.2.1.headD ([], 0, 0, 0, 0, 0)
def rsR (g : GS) (x : Int32) : Int32 := if g.2.2.2.2.1.2.2.1.length = 0 then -1 else if x.toInt < 0 ∨ 5 < x.toInt then -1 else nI (rsN (hdS g) x.toNatClampNeg)
def faN (M : MS) : Nat := if M.2.1.length = 0 then 0 else (hdQ M).2.2.2
def staN (g : GS) : Nat → Nat
  | 0 => g.2.2.2.2.2
  | 1 => g.2.2.2.1.2.1 1
  | 2 => min (g.2.2.2.1.2.1 2) 1000
  | 3 => g.2.2.2.2.1.1 1
  | 4 => if g.2.2.2.2.1.1 1 = 2 then g.2.2.2.2.1.1 2 else 0
  | 5 => g.2.2.2.2.1.2.1.length
  | 6 => faN g.2.2.2.2.1
  | 7 => g.2.2.2.2.1.2.2.1.length
  | 8 => g.2.2.2.2.1.1 13
  | 9 => g.2.2.2.2.1.1 14
  | 10 => g.2.2.2.1.2.1 9
  | 11 => g.2.2.2.1.2.2.length
  | 12 => g.2.2.1.length
  | 13 => g.2.2.2.2.1.2.2.2.1.length
  | 14 => g.1.length
  | 15 => g.2.1.length
  | _ => g.2.2.2.1.2.1 10
def staR (g : GS) (x : Int32) : Int32 := if x.toInt < 0 ∨ 16 < x.toInt then -1 else nI (staN g x.toNatClampNeg)
set_option maxRecDepth 20000 in
set_option maxHeartbeats 2000000 in
theorem k_X11_result {o : Nat} {tp an fr : List Nat} {D : List DS} {wv : Nat → Nat} {hs : List (Nat × Nat)} {ck : Nat} {v : Nat → Nat} {RQ : List RQE} {RS : List RSE} {SC : List SCE} {er : List Nat} {B : Nat → Bool} {h1 h2 : Nat} {N1 N2 : List Bool} {x1 : Int32} : CA mX11_result [.ref o, .int x1] [flo o (tp, an, D, (fr, wv, hs), (v, RQ, RS, SC, er, B), ck) (h1, h2, N1, N2)] (fun r K => r = some (.int (rsR (tp, an, D, (fr, wv, hs), (v, RQ, RS, SC, er, B), ck) x1)) ∧ K = [flo o (tp, an, D, (fr, wv, hs), (v, RQ, RS, SC, er, B), ck) (h1, h2, N1, N2)]) 1 30 0 0 := by
  refine CA.mk 1 (ls := [some (.ref o), some (.int x1), none]) rfl rfl (Nat.le_of_ble_eq_true rfl) rfl (fun h hL => ?_)
  obtain ⟨F, DL, hr, cm, hD, hl6, hL⟩ := flo_o hL
  have hL : stars [pt o (.inr (9, [.ref (F 0), .ref (F 1), .ref (F 2), .ref (F 3), .ref (F 4), .int (nI DL.length), .ref (F 6), .ref (F 7), .int (nI ck)])), row (F 0) 400 tp, row (F 1) 253 an, row (F 2) 253 hr, row (F 3) 253 cm, pt (F 4) (.inl (2, 6, .inr (.inr (.inr (.inr (adD DL)))))), wire (F 6) fr wv hs, mst (F 7) (v, RQ, RS, SC, er, B) (h1, h2, N1, N2), lst dve DL] h := hL
  have hDl : D.length = DL.length := gD_len hD
  refine e_aload_n 1 dX11_result_0 rfl rfl ?_
  refine e_get 4 dX11_result_1 rfl fl_X11_47_9 (stars_at _ 0 hL rfl) rfl ?_
  have hL : stars [mst (F 7) (v, RQ, RS, SC, er, B) (h1, h2, N1, N2), pt o (.inr (9, [.ref (F 0), .ref (F 1), .ref (F 2), .ref (F 3), .ref (F 4), .int (nI DL.length), .ref (F 6), .ref (F 7), .int (nI ck)])), row (F 0) 400 tp, row (F 1) 253 an, row (F 2) 253 hr, row (F 3) 253 cm, pt (F 4) (.inl (2, 6, .inr (.inr (.inr (.inr (adD DL)))))), wire (F 6) fr wv hs, lst dve DL] h := stars_ixn hL 9 rfl [7, 0, 1, 2, 3, 4, 5, 6, 8] (by decide) rfl
  obtain ⟨A, L1, L2, K, hR, hL⟩ := mst_o hL
  obtain ⟨r1, r2, q1, q2, hK, hK8⟩ := hR
  have hJ : mJ L1 L2 (v, RQ, RS, SC, er, B) (h1, h2, N1, N2) := ⟨r1, r2, q1, q2⟩
  have hh1 : h1 < 16 := r1.2.1
  have hn1 : RQ.length ≤ 16 := r1.2.2.1
  have hh2 : h2 < 32 := r2.2.1
  have hn2 : RS.length ≤ 32 := r2.2.2.1
  have hl1 := r1.1
  have hl2 := r2.1
  have hkl : SC.length = K.length := k_len hK
  have hL : stars [pt (F 7) (.inr (3, [.ref (A 0), .int (nI (v 1)), .int (nI (v 2)), .int (nI (v 3)), .int (nI (v 4)), .int (nI (v 5)), .ref (A 6), .int (nI h1), .int (nI RQ.length), .int (nI (v 9)), .ref (A 10), .int (nI h2), .int (nI RS.length), .int (nI (v 13)), .int (nI (v 14)), .ref (A 15), .int (nI K.length)])), stn (A 0) er (v 20) (B 1) (B 2), pt (A 6) (.inl (4, 16, .inr (.inr (.inr (.inr (adJ L1)))))), pt (A 10) (.inl (4, 32, .inr (.inr (.inr (.inr (adJ L2)))))), pt (A 15) (.inl (5, 8, .inr (.inr (.inr (.inr (adS K)))))), lst slt L1, lst slt L2, lst sce K, pt o (.inr (9, [.ref (F 0), .ref (F 1), .ref (F 2), .ref (F 3), .ref (F 4), .int (nI DL.length), .ref (F 6), .ref (F 7), .int (nI ck)])), row (F 0) 400 tp, row (F 1) 253 an, row (F 2) 253 hr, row (F 3) 253 cm, pt (F 4) (.inl (2, 6, .inr (.inr (.inr (.inr (adD DL)))))), wire (F 6) fr wv hs, lst dve DL] h := hL
  rcases Nat.eq_zero_or_pos RS.length with h0 | h0
  · refine p_callV 7 hL [0, 3, 1, 2, 4, 5, 6, 7, 8, 9, 10, 11, 12, 13, 14, 15] 16 rfl (by decide) (L1 := [pt (F 7) (.inr (3, [.ref (A 0), .int (nI (v 1)), .int (nI (v 2)), .int (nI (v 3)), .int (nI (v 4)), .int (nI (v 5)), .ref (A 6), .int (nI h1), .int (nI RQ.length), .int (nI (v 9)), .ref (A 10), .int (nI h2), .int (nI RS.length), .int (nI (v 13)), .int (nI (v 14)), .ref (A 15), .int (nI K.length)])), pt (A 10) (.inl (4, 32, .inr (.inr (.inr (.inr (adJ L2))))))]) (L2 := [stn (A 0) er (v 20) (B 1) (B 2), pt (A 6) (.inl (4, 16, .inr (.inr (.inr (.inr (adJ L1)))))), pt (A 15) (.inl (5, 8, .inr (.inr (.inr (.inr (adS K)))))), lst slt L1, lst slt L2, lst sce K, pt o (.inr (9, [.ref (F 0), .ref (F 1), .ref (F 2), .ref (F 3), .ref (F 4), .int (nI DL.length), .ref (F 6), .ref (F 7), .int (nI ck)])), row (F 0) 400 tp, row (F 1) 253 an, row (F 2) 253 hr, row (F 3) 253 cm, pt (F 4) (.inl (2, 6, .inr (.inr (.inr (.inr (adD DL)))))), wire (F 6) fr wv hs, lst dve DL]) rfl isO_pt 0 rfl dX11_result_4 rfl cv_X11_316 (k_X3_firstResult0 h0) rfl rfl (Nat.le_of_ble_eq_true rfl) ⟨by decide, by omega, by omega⟩ (fun r1 L1 h q hL => ?_)
    obtain ⟨rfl, rfl⟩ := q
    have hL : stars [pt (F 7) (.inr (3, [.ref (A 0), .int (nI (v 1)), .int (nI (v 2)), .int (nI (v 3)), .int (nI (v 4)), .int (nI (v 5)), .ref (A 6), .int (nI h1), .int (nI RQ.length), .int (nI (v 9)), .ref (A 10), .int (nI h2), .int (nI RS.length), .int (nI (v 13)), .int (nI (v 14)), .ref (A 15), .int (nI K.length)])), pt (A 10) (.inl (4, 32, .inr (.inr (.inr (.inr (adJ L2)))))), stn (A 0) er (v 20) (B 1) (B 2), pt (A 6) (.inl (4, 16, .inr (.inr (.inr (.inr (adJ L1)))))), pt (A 15) (.inl (5, 8, .inr (.inr (.inr (.inr (adS K)))))), lst slt L1, lst slt L2, lst sce K, pt o (.inr (9, [.ref (F 0), .ref (F 1), .ref (F 2), .ref (F 3), .ref (F 4), .int (nI DL.length), .ref (F 6), .ref (F 7), .int (nI ck)])), row (F 0) 400 tp, row (F 1) 253 an, row (F 2) 253 hr, row (F 3) 253 cm, pt (F 4) (.inl (2, 6, .inr (.inr (.inr (.inr (adD DL)))))), wire (F 6) fr wv hs, lst dve DL] h := hL
    have hL : stars [pt (F 7) (.inr (3, [.ref (A 0), .int (nI (v 1)), .int (nI (v 2)), .int (nI (v 3)), .int (nI (v 4)), .int (nI (v 5)), .ref (A 6), .int (nI h1), .int (nI RQ.length), .int (nI (v 9)), .ref (A 10), .int (nI h2), .int (nI RS.length), .int (nI (v 13)), .int (nI (v 14)), .ref (A 15), .int (nI K.length)])), stn (A 0) er (v 20) (B 1) (B 2), pt (A 6) (.inl (4, 16, .inr (.inr (.inr (.inr (adJ L1)))))), pt (A 10) (.inl (4, 32, .inr (.inr (.inr (.inr (adJ L2)))))), pt (A 15) (.inl (5, 8, .inr (.inr (.inr (.inr (adS K)))))), lst slt L1, lst slt L2, lst sce K, pt o (.inr (9, [.ref (F 0), .ref (F 1), .ref (F 2), .ref (F 3), .ref (F 4), .int (nI DL.length), .ref (F 6), .ref (F 7), .int (nI ck)])), row (F 0) 400 tp, row (F 1) 253 an, row (F 2) 253 hr, row (F 3) 253 cm, pt (F 4) (.inl (2, 6, .inr (.inr (.inr (.inr (adD DL)))))), wire (F 6) fr wv hs, lst dve DL] h := stars_ixn hL 16 rfl [0, 2, 3, 1, 4, 5, 6, 7, 8, 9, 10, 11, 12, 13, 14, 15] (by decide) rfl
    refine e_astore_nN 8 (ls' := [some (.ref o), some (.int x1), some .null]) dX11_result_7 rfl (by decide) rfl ?_
    refine e_aload_nN 9 dX11_result_8 rfl rfl ?_
    refine e_ifnonnullN 12 dX11_result_9 rfl ?_
    refine e_iconst 13 (v := (-1)) dX11_result_12 rfl (by decide) ?_
    have hL : stars [pt (F 7) (.inr (3, [.ref (A 0), .int (nI (v 1)), .int (nI (v 2)), .int (nI (v 3)), .int (nI (v 4)), .int (nI (v 5)), .ref (A 6), .int (nI h1), .int (nI RQ.length), .int (nI (v 9)), .ref (A 10), .int (nI h2), .int (nI RS.length), .int (nI (v 13)), .int (nI (v 14)), .ref (A 15), .int (nI K.length)])), pt (A 6) (.inl (4, 16, .inr (.inr (.inr (.inr (adJ L1)))))), pt (A 10) (.inl (4, 32, .inr (.inr (.inr (.inr (adJ L2)))))), lst slt L1, lst slt L2, stn (A 0) er (v 20) (B 1) (B 2), pt (A 15) (.inl (5, 8, .inr (.inr (.inr (.inr (adS K)))))), lst sce K, pt o (.inr (9, [.ref (F 0), .ref (F 1), .ref (F 2), .ref (F 3), .ref (F 4), .int (nI DL.length), .ref (F 6), .ref (F 7), .int (nI ck)])), row (F 0) 400 tp, row (F 1) 253 an, row (F 2) 253 hr, row (F 3) 253 cm, pt (F 4) (.inl (2, 6, .inr (.inr (.inr (.inr (adD DL)))))), wire (F 6) fr wv hs, lst dve DL] h := stars_ixn hL 16 rfl [0, 2, 3, 5, 6, 1, 4, 7, 8, 9, 10, 11, 12, 13, 14, 15] (by decide) rfl
    have hL := mst_cj (s := (v, RQ, RS, SC, er, B)) (z := (h1, h2, N1, N2)) (q := v 20) (er := er) (B := B) hJ hK hK8 rfl rfl hL
    have hL : stars [mst (F 7) (v, RQ, RS, SC, er, B) (h1, h2, N1, N2), pt o (.inr (9, [.ref (F 0), .ref (F 1), .ref (F 2), .ref (F 3), .ref (F 4), .int (nI DL.length), .ref (F 6), .ref (F 7), .int (nI ck)])), row (F 0) 400 tp, row (F 1) 253 an, row (F 2) 253 hr, row (F 3) 253 cm, pt (F 4) (.inl (2, 6, .inr (.inr (.inr (.inr (adD DL)))))), wire (F 6) fr wv hs, lst dve DL] h := hL
    exact e_iret dX11_result_13 rfl (by omega) (by omega) (⟨_, ⟨by rw [rsR, if_pos h0], rfl⟩, flo_c (g := (tp, an, D, (fr, wv, hs), (v, RQ, RS, SC, er, B), ck)) (X := []) hD hl6 (stars_ixn hL 9 rfl [1, 2, 3, 4, 5, 6, 7, 0, 8] (by decide) rfl)⟩)
  · obtain ⟨j, hj, hj2⟩ := ring_hd2 r2 h0
    refine p_callV 7 hL [0, 3, 1, 2, 4, 5, 6, 7, 8, 9, 10, 11, 12, 13, 14, 15] 16 rfl (by decide) (L1 := [pt (F 7) (.inr (3, [.ref (A 0), .int (nI (v 1)), .int (nI (v 2)), .int (nI (v 3)), .int (nI (v 4)), .int (nI (v 5)), .ref (A 6), .int (nI h1), .int (nI RQ.length), .int (nI (v 9)), .ref (A 10), .int (nI h2), .int (nI RS.length), .int (nI (v 13)), .int (nI (v 14)), .ref (A 15), .int (nI K.length)])), pt (A 10) (.inl (4, 32, .inr (.inr (.inr (.inr (adJ L2))))))]) (L2 := [stn (A 0) er (v 20) (B 1) (B 2), pt (A 6) (.inl (4, 16, .inr (.inr (.inr (.inr (adJ L1)))))), pt (A 15) (.inl (5, 8, .inr (.inr (.inr (.inr (adS K)))))), lst slt L1, lst slt L2, lst sce K, pt o (.inr (9, [.ref (F 0), .ref (F 1), .ref (F 2), .ref (F 3), .ref (F 4), .int (nI DL.length), .ref (F 6), .ref (F 7), .int (nI ck)])), row (F 0) 400 tp, row (F 1) 253 an, row (F 2) 253 hr, row (F 3) 253 cm, pt (F 4) (.inl (2, 6, .inr (.inr (.inr (.inr (adD DL)))))), wire (F 6) fr wv hs, lst dve DL]) rfl isO_pt 0 rfl dX11_result_4 rfl cv_X11_316 (k_X3_firstResult1 (g := adJ L2) h0 (by omega) (by omega) (adJ_at hj)) rfl rfl (Nat.le_of_ble_eq_true rfl) ⟨by decide, by omega, by omega⟩ (fun r1 L1 h q hL => ?_)
    obtain ⟨rfl, rfl⟩ := q
    have hL : stars [pt (F 7) (.inr (3, [.ref (A 0), .int (nI (v 1)), .int (nI (v 2)), .int (nI (v 3)), .int (nI (v 4)), .int (nI (v 5)), .ref (A 6), .int (nI h1), .int (nI RQ.length), .int (nI (v 9)), .ref (A 10), .int (nI h2), .int (nI RS.length), .int (nI (v 13)), .int (nI (v 14)), .ref (A 15), .int (nI K.length)])), pt (A 10) (.inl (4, 32, .inr (.inr (.inr (.inr (adJ L2)))))), stn (A 0) er (v 20) (B 1) (B 2), pt (A 6) (.inl (4, 16, .inr (.inr (.inr (.inr (adJ L1)))))), pt (A 15) (.inl (5, 8, .inr (.inr (.inr (.inr (adS K)))))), lst slt L1, lst slt L2, lst sce K, pt o (.inr (9, [.ref (F 0), .ref (F 1), .ref (F 2), .ref (F 3), .ref (F 4), .int (nI DL.length), .ref (F 6), .ref (F 7), .int (nI ck)])), row (F 0) 400 tp, row (F 1) 253 an, row (F 2) 253 hr, row (F 3) 253 cm, pt (F 4) (.inl (2, 6, .inr (.inr (.inr (.inr (adD DL)))))), wire (F 6) fr wv hs, lst dve DL] h := hL
    have hL : stars [pt (F 7) (.inr (3, [.ref (A 0), .int (nI (v 1)), .int (nI (v 2)), .int (nI (v 3)), .int (nI (v 4)), .int (nI (v 5)), .ref (A 6), .int (nI h1), .int (nI RQ.length), .int (nI (v 9)), .ref (A 10), .int (nI h2), .int (nI RS.length), .int (nI (v 13)), .int (nI (v 14)), .ref (A 15), .int (nI K.length)])), stn (A 0) er (v 20) (B 1) (B 2), pt (A 6) (.inl (4, 16, .inr (.inr (.inr (.inr (adJ L1)))))), pt (A 10) (.inl (4, 32, .inr (.inr (.inr (.inr (adJ L2)))))), pt (A 15) (.inl (5, 8, .inr (.inr (.inr (.inr (adS K)))))), lst slt L1, lst slt L2, lst sce K, pt o (.inr (9, [.ref (F 0), .ref (F 1), .ref (F 2), .ref (F 3), .ref (F 4), .int (nI DL.length), .ref (F 6), .ref (F 7), .int (nI ck)])), row (F 0) 400 tp, row (F 1) 253 an, row (F 2) 253 hr, row (F 3) 253 cm, pt (F 4) (.inl (2, 6, .inr (.inr (.inr (.inr (adD DL)))))), wire (F 6) fr wv hs, lst dve DL] h := stars_ixn hL 16 rfl [0, 2, 3, 1, 4, 5, 6, 7, 8, 9, 10, 11, 12, 13, 14, 15] (by decide) rfl
    refine e_astore_n 8 (ls' := [some (.ref o), some (.int x1), some (.ref j.1)]) dX11_result_7 rfl (by decide) rfl ?_
    refine e_aload_n 9 dX11_result_8 rfl rfl ?_
    refine e_ifnonnull 14 dX11_result_9 rfl ?_
    refine e_iload_n 15 dX11_result_14 rfl rfl ?_
    by_cases hx15 : x1.toInt < 0 ∨ 5 < x1.toInt
    · refine e_tableOut 85 dX11_result_15 hx15 rfl ?_
      refine e_iconst 86 (v := (-1)) dX11_result_85 rfl (by decide) ?_
      have hL : stars [pt (F 7) (.inr (3, [.ref (A 0), .int (nI (v 1)), .int (nI (v 2)), .int (nI (v 3)), .int (nI (v 4)), .int (nI (v 5)), .ref (A 6), .int (nI h1), .int (nI RQ.length), .int (nI (v 9)), .ref (A 10), .int (nI h2), .int (nI RS.length), .int (nI (v 13)), .int (nI (v 14)), .ref (A 15), .int (nI K.length)])), pt (A 6) (.inl (4, 16, .inr (.inr (.inr (.inr (adJ L1)))))), pt (A 10) (.inl (4, 32, .inr (.inr (.inr (.inr (adJ L2)))))), lst slt L1, lst slt L2, stn (A 0) er (v 20) (B 1) (B 2), pt (A 15) (.inl (5, 8, .inr (.inr (.inr (.inr (adS K)))))), lst sce K, pt o (.inr (9, [.ref (F 0), .ref (F 1), .ref (F 2), .ref (F 3), .ref (F 4), .int (nI DL.length), .ref (F 6), .ref (F 7), .int (nI ck)])), row (F 0) 400 tp, row (F 1) 253 an, row (F 2) 253 hr, row (F 3) 253 cm, pt (F 4) (.inl (2, 6, .inr (.inr (.inr (.inr (adD DL)))))), wire (F 6) fr wv hs, lst dve DL] h := stars_ixn hL 16 rfl [0, 2, 3, 5, 6, 1, 4, 7, 8, 9, 10, 11, 12, 13, 14, 15] (by decide) rfl
      have hL := mst_cj (s := (v, RQ, RS, SC, er, B)) (z := (h1, h2, N1, N2)) (q := v 20) (er := er) (B := B) hJ hK hK8 rfl rfl hL
      have hL : stars [mst (F 7) (v, RQ, RS, SC, er, B) (h1, h2, N1, N2), pt o (.inr (9, [.ref (F 0), .ref (F 1), .ref (F 2), .ref (F 3), .ref (F 4), .int (nI DL.length), .ref (F 6), .ref (F 7), .int (nI ck)])), row (F 0) 400 tp, row (F 1) 253 an, row (F 2) 253 hr, row (F 3) 253 cm, pt (F 4) (.inl (2, 6, .inr (.inr (.inr (.inr (adD DL)))))), wire (F 6) fr wv hs, lst dve DL] h := hL
      exact e_iret dX11_result_86 rfl (by omega) (by omega) (⟨_, ⟨by rw [rsR, if_neg (show ¬ RS.length = 0 by omega), if_pos hx15], rfl⟩, flo_c (g := (tp, an, D, (fr, wv, hs), (v, RQ, RS, SC, er, B), ck)) (X := []) hD hl6 (stars_ixn hL 9 rfl [1, 2, 3, 4, 5, 6, 7, 0, 8] (by decide) rfl)⟩)
    · obtain ⟨n15, e15, r15, t15⟩ := sw_nat (by decide) hx15
      subst e15
      rcases (show (n15 = 0) ∨ (n15 = 1) ∨ (n15 = 2) ∨ (n15 = 3) ∨ (n15 = 4) ∨ (n15 = 5) by omega) with s15 | s15 | s15 | s15 | s15 | s15
      · refine e_tableIn 52 (off := 37) dX11_result_15 (by rw [nI_toInt (by omega)]; omega) (by rw [nI_toInt (by omega)]; omega) (by rw [s15]; decide) rfl ?_
        refine e_aload_n 53 dX11_result_52 rfl rfl ?_
        obtain ⟨z53, y53⟩ := job_rd _ 6 hL rfl hj
        refine e_get 56 dX11_result_53 rfl fl_X11_319_2 y53 rfl ?_
        have hL : stars [pt (F 7) (.inr (3, [.ref (A 0), .int (nI (v 1)), .int (nI (v 2)), .int (nI (v 3)), .int (nI (v 4)), .int (nI (v 5)), .ref (A 6), .int (nI h1), .int (nI RQ.length), .int (nI (v 9)), .ref (A 10), .int (nI h2), .int (nI RS.length), .int (nI (v 13)), .int (nI (v 14)), .ref (A 15), .int (nI K.length)])), pt (A 6) (.inl (4, 16, .inr (.inr (.inr (.inr (adJ L1)))))), pt (A 10) (.inl (4, 32, .inr (.inr (.inr (.inr (adJ L2)))))), lst slt L1, lst slt L2, stn (A 0) er (v 20) (B 1) (B 2), pt (A 15) (.inl (5, 8, .inr (.inr (.inr (.inr (adS K)))))), lst sce K, pt o (.inr (9, [.ref (F 0), .ref (F 1), .ref (F 2), .ref (F 3), .ref (F 4), .int (nI DL.length), .ref (F 6), .ref (F 7), .int (nI ck)])), row (F 0) 400 tp, row (F 1) 253 an, row (F 2) 253 hr, row (F 3) 253 cm, pt (F 4) (.inl (2, 6, .inr (.inr (.inr (.inr (adD DL)))))), wire (F 6) fr wv hs, lst dve DL] h := stars_ixn hL 16 rfl [0, 2, 3, 5, 6, 1, 4, 7, 8, 9, 10, 11, 12, 13, 14, 15] (by decide) rfl
        have hL := mst_cj (s := (v, RQ, RS, SC, er, B)) (z := (h1, h2, N1, N2)) (q := v 20) (er := er) (B := B) hJ hK hK8 rfl rfl hL
        have hL : stars [mst (F 7) (v, RQ, RS, SC, er, B) (h1, h2, N1, N2), pt o (.inr (9, [.ref (F 0), .ref (F 1), .ref (F 2), .ref (F 3), .ref (F 4), .int (nI DL.length), .ref (F 6), .ref (F 7), .int (nI ck)])), row (F 0) 400 tp, row (F 1) 253 an, row (F 2) 253 hr, row (F 3) 253 cm, pt (F 4) (.inl (2, 6, .inr (.inr (.inr (.inr (adD DL)))))), wire (F 6) fr wv hs, lst dve DL] h := hL
        exact e_iret dX11_result_56 rfl (by omega) (by omega) (⟨_, ⟨by rw [rsR, if_neg (show ¬ RS.length = 0 by omega), if_neg hx15, show hdS (tp, an, D, (fr, wv, hs), (v, RQ, RS, SC, er, B), ck) = rd j from hj2 _, nI_clamp (by omega)]; rw [s15]; rfl, rfl⟩, flo_c (g := (tp, an, D, (fr, wv, hs), (v, RQ, RS, SC, er, B), ck)) (X := []) hD hl6 (stars_ixn hL 9 rfl [1, 2, 3, 4, 5, 6, 7, 0, 8] (by decide) rfl)⟩)
      · refine e_tableIn 57 (off := 42) dX11_result_15 (by rw [nI_toInt (by omega)]; omega) (by rw [nI_toInt (by omega)]; omega) (by rw [s15]; decide) rfl ?_
        refine e_aload_n 58 dX11_result_57 rfl rfl ?_
        obtain ⟨z58, y58⟩ := job_rd _ 6 hL rfl hj
        refine e_get 61 dX11_result_58 rfl fl_X11_322_2 y58 rfl ?_
        have hL : stars [pt (F 7) (.inr (3, [.ref (A 0), .int (nI (v 1)), .int (nI (v 2)), .int (nI (v 3)), .int (nI (v 4)), .int (nI (v 5)), .ref (A 6), .int (nI h1), .int (nI RQ.length), .int (nI (v 9)), .ref (A 10), .int (nI h2), .int (nI RS.length), .int (nI (v 13)), .int (nI (v 14)), .ref (A 15), .int (nI K.length)])), pt (A 6) (.inl (4, 16, .inr (.inr (.inr (.inr (adJ L1)))))), pt (A 10) (.inl (4, 32, .inr (.inr (.inr (.inr (adJ L2)))))), lst slt L1, lst slt L2, stn (A 0) er (v 20) (B 1) (B 2), pt (A 15) (.inl (5, 8, .inr (.inr (.inr (.inr (adS K)))))), lst sce K, pt o (.inr (9, [.ref (F 0), .ref (F 1), .ref (F 2), .ref (F 3), .ref (F 4), .int (nI DL.length), .ref (F 6), .ref (F 7), .int (nI ck)])), row (F 0) 400 tp, row (F 1) 253 an, row (F 2) 253 hr, row (F 3) 253 cm, pt (F 4) (.inl (2, 6, .inr (.inr (.inr (.inr (adD DL)))))), wire (F 6) fr wv hs, lst dve DL] h := stars_ixn hL 16 rfl [0, 2, 3, 5, 6, 1, 4, 7, 8, 9, 10, 11, 12, 13, 14, 15] (by decide) rfl
        have hL := mst_cj (s := (v, RQ, RS, SC, er, B)) (z := (h1, h2, N1, N2)) (q := v 20) (er := er) (B := B) hJ hK hK8 rfl rfl hL
        have hL : stars [mst (F 7) (v, RQ, RS, SC, er, B) (h1, h2, N1, N2), pt o (.inr (9, [.ref (F 0), .ref (F 1), .ref (F 2), .ref (F 3), .ref (F 4), .int (nI DL.length), .ref (F 6), .ref (F 7), .int (nI ck)])), row (F 0) 400 tp, row (F 1) 253 an, row (F 2) 253 hr, row (F 3) 253 cm, pt (F 4) (.inl (2, 6, .inr (.inr (.inr (.inr (adD DL)))))), wire (F 6) fr wv hs, lst dve DL] h := hL
        exact e_iret dX11_result_61 rfl (by omega) (by omega) (⟨_, ⟨by rw [rsR, if_neg (show ¬ RS.length = 0 by omega), if_neg hx15, show hdS (tp, an, D, (fr, wv, hs), (v, RQ, RS, SC, er, B), ck) = rd j from hj2 _, nI_clamp (by omega)]; rw [s15]; rfl, rfl⟩, flo_c (g := (tp, an, D, (fr, wv, hs), (v, RQ, RS, SC, er, B), ck)) (X := []) hD hl6 (stars_ixn hL 9 rfl [1, 2, 3, 4, 5, 6, 7, 0, 8] (by decide) rfl)⟩)
      · refine e_tableIn 62 (off := 47) dX11_result_15 (by rw [nI_toInt (by omega)]; omega) (by rw [nI_toInt (by omega)]; omega) (by rw [s15]; decide) rfl ?_
        refine e_aload_n 63 dX11_result_62 rfl rfl ?_
        obtain ⟨z63, y63⟩ := job_rd _ 6 hL rfl hj
        refine e_get 66 dX11_result_63 rfl fl_X11_325_2 y63 rfl ?_
        have hL : stars [pt (F 7) (.inr (3, [.ref (A 0), .int (nI (v 1)), .int (nI (v 2)), .int (nI (v 3)), .int (nI (v 4)), .int (nI (v 5)), .ref (A 6), .int (nI h1), .int (nI RQ.length), .int (nI (v 9)), .ref (A 10), .int (nI h2), .int (nI RS.length), .int (nI (v 13)), .int (nI (v 14)), .ref (A 15), .int (nI K.length)])), pt (A 6) (.inl (4, 16, .inr (.inr (.inr (.inr (adJ L1)))))), pt (A 10) (.inl (4, 32, .inr (.inr (.inr (.inr (adJ L2)))))), lst slt L1, lst slt L2, stn (A 0) er (v 20) (B 1) (B 2), pt (A 15) (.inl (5, 8, .inr (.inr (.inr (.inr (adS K)))))), lst sce K, pt o (.inr (9, [.ref (F 0), .ref (F 1), .ref (F 2), .ref (F 3), .ref (F 4), .int (nI DL.length), .ref (F 6), .ref (F 7), .int (nI ck)])), row (F 0) 400 tp, row (F 1) 253 an, row (F 2) 253 hr, row (F 3) 253 cm, pt (F 4) (.inl (2, 6, .inr (.inr (.inr (.inr (adD DL)))))), wire (F 6) fr wv hs, lst dve DL] h := stars_ixn hL 16 rfl [0, 2, 3, 5, 6, 1, 4, 7, 8, 9, 10, 11, 12, 13, 14, 15] (by decide) rfl
        have hL := mst_cj (s := (v, RQ, RS, SC, er, B)) (z := (h1, h2, N1, N2)) (q := v 20) (er := er) (B := B) hJ hK hK8 rfl rfl hL
        have hL : stars [mst (F 7) (v, RQ, RS, SC, er, B) (h1, h2, N1, N2), pt o (.inr (9, [.ref (F 0), .ref (F 1), .ref (F 2), .ref (F 3), .ref (F 4), .int (nI DL.length), .ref (F 6), .ref (F 7), .int (nI ck)])), row (F 0) 400 tp, row (F 1) 253 an, row (F 2) 253 hr, row (F 3) 253 cm, pt (F 4) (.inl (2, 6, .inr (.inr (.inr (.inr (adD DL)))))), wire (F 6) fr wv hs, lst dve DL] h := hL
        exact e_iret dX11_result_66 rfl (by omega) (by omega) (⟨_, ⟨by rw [rsR, if_neg (show ¬ RS.length = 0 by omega), if_neg hx15, show hdS (tp, an, D, (fr, wv, hs), (v, RQ, RS, SC, er, B), ck) = rd j from hj2 _, nI_clamp (by omega)]; rw [s15]; rfl, rfl⟩, flo_c (g := (tp, an, D, (fr, wv, hs), (v, RQ, RS, SC, er, B), ck)) (X := []) hD hl6 (stars_ixn hL 9 rfl [1, 2, 3, 4, 5, 6, 7, 0, 8] (by decide) rfl)⟩)
      · refine e_tableIn 67 (off := 52) dX11_result_15 (by rw [nI_toInt (by omega)]; omega) (by rw [nI_toInt (by omega)]; omega) (by rw [s15]; decide) rfl ?_
        refine e_aload_n 68 dX11_result_67 rfl rfl ?_
        obtain ⟨z68, y68⟩ := job_rd _ 6 hL rfl hj
        refine e_get 71 dX11_result_68 rfl fl_X11_250_2 y68 rfl ?_
        have hL : stars [pt (F 7) (.inr (3, [.ref (A 0), .int (nI (v 1)), .int (nI (v 2)), .int (nI (v 3)), .int (nI (v 4)), .int (nI (v 5)), .ref (A 6), .int (nI h1), .int (nI RQ.length), .int (nI (v 9)), .ref (A 10), .int (nI h2), .int (nI RS.length), .int (nI (v 13)), .int (nI (v 14)), .ref (A 15), .int (nI K.length)])), pt (A 6) (.inl (4, 16, .inr (.inr (.inr (.inr (adJ L1)))))), pt (A 10) (.inl (4, 32, .inr (.inr (.inr (.inr (adJ L2)))))), lst slt L1, lst slt L2, stn (A 0) er (v 20) (B 1) (B 2), pt (A 15) (.inl (5, 8, .inr (.inr (.inr (.inr (adS K)))))), lst sce K, pt o (.inr (9, [.ref (F 0), .ref (F 1), .ref (F 2), .ref (F 3), .ref (F 4), .int (nI DL.length), .ref (F 6), .ref (F 7), .int (nI ck)])), row (F 0) 400 tp, row (F 1) 253 an, row (F 2) 253 hr, row (F 3) 253 cm, pt (F 4) (.inl (2, 6, .inr (.inr (.inr (.inr (adD DL)))))), wire (F 6) fr wv hs, lst dve DL] h := stars_ixn hL 16 rfl [0, 2, 3, 5, 6, 1, 4, 7, 8, 9, 10, 11, 12, 13, 14, 15] (by decide) rfl
        have hL := mst_cj (s := (v, RQ, RS, SC, er, B)) (z := (h1, h2, N1, N2)) (q := v 20) (er := er) (B := B) hJ hK hK8 rfl rfl hL
        have hL : stars [mst (F 7) (v, RQ, RS, SC, er, B) (h1, h2, N1, N2), pt o (.inr (9, [.ref (F 0), .ref (F 1), .ref (F 2), .ref (F 3), .ref (F 4), .int (nI DL.length), .ref (F 6), .ref (F 7), .int (nI ck)])), row (F 0) 400 tp, row (F 1) 253 an, row (F 2) 253 hr, row (F 3) 253 cm, pt (F 4) (.inl (2, 6, .inr (.inr (.inr (.inr (adD DL)))))), wire (F 6) fr wv hs, lst dve DL] h := hL
        exact e_iret dX11_result_71 rfl (by omega) (by omega) (⟨_, ⟨by rw [rsR, if_neg (show ¬ RS.length = 0 by omega), if_neg hx15, show hdS (tp, an, D, (fr, wv, hs), (v, RQ, RS, SC, er, B), ck) = rd j from hj2 _, nI_clamp (by omega)]; rw [s15]; rfl, rfl⟩, flo_c (g := (tp, an, D, (fr, wv, hs), (v, RQ, RS, SC, er, B), ck)) (X := []) hD hl6 (stars_ixn hL 9 rfl [1, 2, 3, 4, 5, 6, 7, 0, 8] (by decide) rfl)⟩)
      · refine e_tableIn 72 (off := 57) dX11_result_15 (by rw [nI_toInt (by omega)]; omega) (by rw [nI_toInt (by omega)]; omega) (by rw [s15]; decide) rfl ?_
        refine e_aload_n 73 dX11_result_72 rfl rfl ?_
        have hL : stars [lst slt L2, pt (F 7) (.inr (3, [.ref (A 0), .int (nI (v 1)), .int (nI (v 2)), .int (nI (v 3)), .int (nI (v 4)), .int (nI (v 5)), .ref (A 6), .int (nI h1), .int (nI RQ.length), .int (nI (v 9)), .ref (A 10), .int (nI h2), .int (nI RS.length), .int (nI (v 13)), .int (nI (v 14)), .ref (A 15), .int (nI K.length)])), stn (A 0) er (v 20) (B 1) (B 2), pt (A 6) (.inl (4, 16, .inr (.inr (.inr (.inr (adJ L1)))))), pt (A 10) (.inl (4, 32, .inr (.inr (.inr (.inr (adJ L2)))))), pt (A 15) (.inl (5, 8, .inr (.inr (.inr (.inr (adS K)))))), lst slt L1, lst sce K, pt o (.inr (9, [.ref (F 0), .ref (F 1), .ref (F 2), .ref (F 3), .ref (F 4), .int (nI DL.length), .ref (F 6), .ref (F 7), .int (nI ck)])), row (F 0) 400 tp, row (F 1) 253 an, row (F 2) 253 hr, row (F 3) 253 cm, pt (F 4) (.inl (2, 6, .inr (.inr (.inr (.inr (adD DL)))))), wire (F 6) fr wv hs, lst dve DL] h := stars_ixn hL 16 rfl [6, 0, 1, 2, 3, 4, 5, 7, 8, 9, 10, 11, 12, 13, 14, 15] (by decide) rfl
        obtain ⟨jr, hL⟩ := job_o (job_at hj hL)
        have hL : stars [pt j.1 (.inr (2, [.ref jr, .int (nI (j.2.2 1)), .int (nI (j.2.2 2)), .int (nI (j.2.2 3)), .int (nI (j.2.2 4)), .int (nI (j.2.2 5))])), row jr 253 j.2.1, lst slt (L2.eraseIdx h2), pt (F 7) (.inr (3, [.ref (A 0), .int (nI (v 1)), .int (nI (v 2)), .int (nI (v 3)), .int (nI (v 4)), .int (nI (v 5)), .ref (A 6), .int (nI h1), .int (nI RQ.length), .int (nI (v 9)), .ref (A 10), .int (nI h2), .int (nI RS.length), .int (nI (v 13)), .int (nI (v 14)), .ref (A 15), .int (nI K.length)])), stn (A 0) er (v 20) (B 1) (B 2), pt (A 6) (.inl (4, 16, .inr (.inr (.inr (.inr (adJ L1)))))), pt (A 10) (.inl (4, 32, .inr (.inr (.inr (.inr (adJ L2)))))), pt (A 15) (.inl (5, 8, .inr (.inr (.inr (.inr (adS K)))))), lst slt L1, lst sce K, pt o (.inr (9, [.ref (F 0), .ref (F 1), .ref (F 2), .ref (F 3), .ref (F 4), .int (nI DL.length), .ref (F 6), .ref (F 7), .int (nI ck)])), row (F 0) 400 tp, row (F 1) 253 an, row (F 2) 253 hr, row (F 3) 253 cm, pt (F 4) (.inl (2, 6, .inr (.inr (.inr (.inr (adD DL)))))), wire (F 6) fr wv hs, lst dve DL] h := hL
        refine e_get 76 dX11_result_73 rfl fl_X11_256_2 (stars_at _ 0 hL rfl) rfl ?_
        obtain ⟨z76, y76⟩ := row_at _ 1 hL rfl
        refine e_get 79 dX11_result_76 rfl fl_X11_54_4 y76 rfl ?_
        have hL := lst_b (f := slt) h2 hj (job_c j.2.2 hL)
        have hL : stars [lst slt L2, pt (F 7) (.inr (3, [.ref (A 0), .int (nI (v 1)), .int (nI (v 2)), .int (nI (v 3)), .int (nI (v 4)), .int (nI (v 5)), .ref (A 6), .int (nI h1), .int (nI RQ.length), .int (nI (v 9)), .ref (A 10), .int (nI h2), .int (nI RS.length), .int (nI (v 13)), .int (nI (v 14)), .ref (A 15), .int (nI K.length)])), stn (A 0) er (v 20) (B 1) (B 2), pt (A 6) (.inl (4, 16, .inr (.inr (.inr (.inr (adJ L1)))))), pt (A 10) (.inl (4, 32, .inr (.inr (.inr (.inr (adJ L2)))))), pt (A 15) (.inl (5, 8, .inr (.inr (.inr (.inr (adS K)))))), lst slt L1, lst sce K, pt o (.inr (9, [.ref (F 0), .ref (F 1), .ref (F 2), .ref (F 3), .ref (F 4), .int (nI DL.length), .ref (F 6), .ref (F 7), .int (nI ck)])), row (F 0) 400 tp, row (F 1) 253 an, row (F 2) 253 hr, row (F 3) 253 cm, pt (F 4) (.inl (2, 6, .inr (.inr (.inr (.inr (adD DL)))))), wire (F 6) fr wv hs, lst dve DL] h := hL
        have hL : stars [pt (F 7) (.inr (3, [.ref (A 0), .int (nI (v 1)), .int (nI (v 2)), .int (nI (v 3)), .int (nI (v 4)), .int (nI (v 5)), .ref (A 6), .int (nI h1), .int (nI RQ.length), .int (nI (v 9)), .ref (A 10), .int (nI h2), .int (nI RS.length), .int (nI (v 13)), .int (nI (v 14)), .ref (A 15), .int (nI K.length)])), pt (A 6) (.inl (4, 16, .inr (.inr (.inr (.inr (adJ L1)))))), pt (A 10) (.inl (4, 32, .inr (.inr (.inr (.inr (adJ L2)))))), lst slt L1, lst slt L2, stn (A 0) er (v 20) (B 1) (B 2), pt (A 15) (.inl (5, 8, .inr (.inr (.inr (.inr (adS K)))))), lst sce K, pt o (.inr (9, [.ref (F 0), .ref (F 1), .ref (F 2), .ref (F 3), .ref (F 4), .int (nI DL.length), .ref (F 6), .ref (F 7), .int (nI ck)])), row (F 0) 400 tp, row (F 1) 253 an, row (F 2) 253 hr, row (F 3) 253 cm, pt (F 4) (.inl (2, 6, .inr (.inr (.inr (.inr (adD DL)))))), wire (F 6) fr wv hs, lst dve DL] h := stars_ixn hL 16 rfl [1, 3, 4, 6, 0, 2, 5, 7, 8, 9, 10, 11, 12, 13, 14, 15] (by decide) rfl
        have hL := mst_cj (s := (v, RQ, RS, SC, er, B)) (z := (h1, h2, N1, N2)) (q := v 20) (er := er) (B := B) hJ hK hK8 rfl rfl hL
        have hL : stars [mst (F 7) (v, RQ, RS, SC, er, B) (h1, h2, N1, N2), pt o (.inr (9, [.ref (F 0), .ref (F 1), .ref (F 2), .ref (F 3), .ref (F 4), .int (nI DL.length), .ref (F 6), .ref (F 7), .int (nI ck)])), row (F 0) 400 tp, row (F 1) 253 an, row (F 2) 253 hr, row (F 3) 253 cm, pt (F 4) (.inl (2, 6, .inr (.inr (.inr (.inr (adD DL)))))), wire (F 6) fr wv hs, lst dve DL] h := hL
        exact e_iret dX11_result_79 rfl (by omega) (by omega) (⟨_, ⟨by rw [rsR, if_neg (show ¬ RS.length = 0 by omega), if_neg hx15, show hdS (tp, an, D, (fr, wv, hs), (v, RQ, RS, SC, er, B), ck) = rd j from hj2 _, nI_clamp (by omega)]; rw [s15]; rfl, rfl⟩, flo_c (g := (tp, an, D, (fr, wv, hs), (v, RQ, RS, SC, er, B), ck)) (X := []) hD hl6 (stars_ixn hL 9 rfl [1, 2, 3, 4, 5, 6, 7, 0, 8] (by decide) rfl)⟩)
      · refine e_tableIn 80 (off := 65) dX11_result_15 (by rw [nI_toInt (by omega)]; omega) (by rw [nI_toInt (by omega)]; omega) (by rw [s15]; decide) rfl ?_
        refine e_aload_n 81 dX11_result_80 rfl rfl ?_
        obtain ⟨z81, y81⟩ := job_rd _ 6 hL rfl hj
        refine e_get 84 dX11_result_81 rfl fl_X11_255_2 y81 rfl ?_
        have hL : stars [pt (F 7) (.inr (3, [.ref (A 0), .int (nI (v 1)), .int (nI (v 2)), .int (nI (v 3)), .int (nI (v 4)), .int (nI (v 5)), .ref (A 6), .int (nI h1), .int (nI RQ.length), .int (nI (v 9)), .ref (A 10), .int (nI h2), .int (nI RS.length), .int (nI (v 13)), .int (nI (v 14)), .ref (A 15), .int (nI K.length)])), pt (A 6) (.inl (4, 16, .inr (.inr (.inr (.inr (adJ L1)))))), pt (A 10) (.inl (4, 32, .inr (.inr (.inr (.inr (adJ L2)))))), lst slt L1, lst slt L2, stn (A 0) er (v 20) (B 1) (B 2), pt (A 15) (.inl (5, 8, .inr (.inr (.inr (.inr (adS K)))))), lst sce K, pt o (.inr (9, [.ref (F 0), .ref (F 1), .ref (F 2), .ref (F 3), .ref (F 4), .int (nI DL.length), .ref (F 6), .ref (F 7), .int (nI ck)])), row (F 0) 400 tp, row (F 1) 253 an, row (F 2) 253 hr, row (F 3) 253 cm, pt (F 4) (.inl (2, 6, .inr (.inr (.inr (.inr (adD DL)))))), wire (F 6) fr wv hs, lst dve DL] h := stars_ixn hL 16 rfl [0, 2, 3, 5, 6, 1, 4, 7, 8, 9, 10, 11, 12, 13, 14, 15] (by decide) rfl
        have hL := mst_cj (s := (v, RQ, RS, SC, er, B)) (z := (h1, h2, N1, N2)) (q := v 20) (er := er) (B := B) hJ hK hK8 rfl rfl hL
        have hL : stars [mst (F 7) (v, RQ, RS, SC, er, B) (h1, h2, N1, N2), pt o (.inr (9, [.ref (F 0), .ref (F 1), .ref (F 2), .ref (F 3), .ref (F 4), .int (nI DL.length), .ref (F 6), .ref (F 7), .int (nI ck)])), row (F 0) 400 tp, row (F 1) 253 an, row (F 2) 253 hr, row (F 3) 253 cm, pt (F 4) (.inl (2, 6, .inr (.inr (.inr (.inr (adD DL)))))), wire (F 6) fr wv hs, lst dve DL] h := hL
        exact e_iret dX11_result_84 rfl (by omega) (by omega) (⟨_, ⟨by rw [rsR, if_neg (show ¬ RS.length = 0 by omega), if_neg hx15, show hdS (tp, an, D, (fr, wv, hs), (v, RQ, RS, SC, er, B), ck) = rd j from hj2 _, nI_clamp (by omega)]; rw [s15]; rfl, rfl⟩, flo_c (g := (tp, an, D, (fr, wv, hs), (v, RQ, RS, SC, er, B), ck)) (X := []) hD hl6 (stars_ixn hL 9 rfl [1, 2, 3, 4, 5, 6, 7, 0, 8] (by decide) rfl)⟩)
set_option maxRecDepth 20000 in
set_option maxHeartbeats 2000000 in
theorem k_X11_firstAttempts {o n ck : Nat} {F : Nat → Nat} {v : Nat → Nat} {RQ : List RQE} {RS : List RSE} {SC : List SCE} {er : List Nat} {B : Nat → Bool} {h1 h2 : Nat} {N1 N2 : List Bool} : CA mX11_firstAttempts [.ref o] [pt o (.inr (9, [.ref (F 0), .ref (F 1), .ref (F 2), .ref (F 3), .ref (F 4), .int (nI n), .ref (F 6), .ref (F 7), .int (nI ck)])), mst (F 7) (v, RQ, RS, SC, er, B) (h1, h2, N1, N2)] (fun r K => r = some (.int (nI (faN (v, RQ, RS, SC, er, B)))) ∧ K = [pt o (.inr (9, [.ref (F 0), .ref (F 1), .ref (F 2), .ref (F 3), .ref (F 4), .int (nI n), .ref (F 6), .ref (F 7), .int (nI ck)])), mst (F 7) (v, RQ, RS, SC, er, B) (h1, h2, N1, N2)]) 1 30 0 0 := by
  refine CA.mk 1 (ls := [some (.ref o), none]) rfl rfl (Nat.le_of_ble_eq_true rfl) rfl (fun h hL => ?_)
  refine e_aload_n 1 dX11_firstAttempts_0 rfl rfl ?_
  refine e_get 4 dX11_firstAttempts_1 rfl fl_X11_47_9 (stars_at _ 0 hL rfl) rfl ?_
  have hL : stars [mst (F 7) (v, RQ, RS, SC, er, B) (h1, h2, N1, N2), pt o (.inr (9, [.ref (F 0), .ref (F 1), .ref (F 2), .ref (F 3), .ref (F 4), .int (nI n), .ref (F 6), .ref (F 7), .int (nI ck)]))] h := stars_ixn hL 2 rfl [1, 0] (by decide) rfl
  obtain ⟨A, L1, L2, K, hR, hL⟩ := mst_o hL
  obtain ⟨r1, r2, q1, q2, hK, hK8⟩ := hR
  have hJ : mJ L1 L2 (v, RQ, RS, SC, er, B) (h1, h2, N1, N2) := ⟨r1, r2, q1, q2⟩
  have hh1 : h1 < 16 := r1.2.1
  have hn1 : RQ.length ≤ 16 := r1.2.2.1
  have hh2 : h2 < 32 := r2.2.1
  have hn2 : RS.length ≤ 32 := r2.2.2.1
  have hl1 := r1.1
  have hl2 := r2.1
  have hkl : SC.length = K.length := k_len hK
  have hL : stars [pt (F 7) (.inr (3, [.ref (A 0), .int (nI (v 1)), .int (nI (v 2)), .int (nI (v 3)), .int (nI (v 4)), .int (nI (v 5)), .ref (A 6), .int (nI h1), .int (nI RQ.length), .int (nI (v 9)), .ref (A 10), .int (nI h2), .int (nI RS.length), .int (nI (v 13)), .int (nI (v 14)), .ref (A 15), .int (nI K.length)])), stn (A 0) er (v 20) (B 1) (B 2), pt (A 6) (.inl (4, 16, .inr (.inr (.inr (.inr (adJ L1)))))), pt (A 10) (.inl (4, 32, .inr (.inr (.inr (.inr (adJ L2)))))), pt (A 15) (.inl (5, 8, .inr (.inr (.inr (.inr (adS K)))))), lst slt L1, lst slt L2, lst sce K, pt o (.inr (9, [.ref (F 0), .ref (F 1), .ref (F 2), .ref (F 3), .ref (F 4), .int (nI n), .ref (F 6), .ref (F 7), .int (nI ck)]))] h := hL
  rcases Nat.eq_zero_or_pos RQ.length with h0 | h0
  · refine p_callV 7 hL [0, 2, 1, 3, 4, 5, 6, 7, 8] 9 rfl (by decide) (L1 := [pt (F 7) (.inr (3, [.ref (A 0), .int (nI (v 1)), .int (nI (v 2)), .int (nI (v 3)), .int (nI (v 4)), .int (nI (v 5)), .ref (A 6), .int (nI h1), .int (nI RQ.length), .int (nI (v 9)), .ref (A 10), .int (nI h2), .int (nI RS.length), .int (nI (v 13)), .int (nI (v 14)), .ref (A 15), .int (nI K.length)])), pt (A 6) (.inl (4, 16, .inr (.inr (.inr (.inr (adJ L1))))))]) (L2 := [stn (A 0) er (v 20) (B 1) (B 2), pt (A 10) (.inl (4, 32, .inr (.inr (.inr (.inr (adJ L2)))))), pt (A 15) (.inl (5, 8, .inr (.inr (.inr (.inr (adS K)))))), lst slt L1, lst slt L2, lst sce K, pt o (.inr (9, [.ref (F 0), .ref (F 1), .ref (F 2), .ref (F 3), .ref (F 4), .int (nI n), .ref (F 6), .ref (F 7), .int (nI ck)]))]) rfl isO_pt 0 rfl dX11_firstAttempts_4 rfl cv_X11_243 (k_X3_firstRequest0 h0) rfl rfl (Nat.le_of_ble_eq_true rfl) ⟨by decide, by omega, by omega⟩ (fun r1 L1 h q hL => ?_)
    obtain ⟨rfl, rfl⟩ := q
    have hL : stars [pt (F 7) (.inr (3, [.ref (A 0), .int (nI (v 1)), .int (nI (v 2)), .int (nI (v 3)), .int (nI (v 4)), .int (nI (v 5)), .ref (A 6), .int (nI h1), .int (nI RQ.length), .int (nI (v 9)), .ref (A 10), .int (nI h2), .int (nI RS.length), .int (nI (v 13)), .int (nI (v 14)), .ref (A 15), .int (nI K.length)])), pt (A 6) (.inl (4, 16, .inr (.inr (.inr (.inr (adJ L1)))))), stn (A 0) er (v 20) (B 1) (B 2), pt (A 10) (.inl (4, 32, .inr (.inr (.inr (.inr (adJ L2)))))), pt (A 15) (.inl (5, 8, .inr (.inr (.inr (.inr (adS K)))))), lst slt L1, lst slt L2, lst sce K, pt o (.inr (9, [.ref (F 0), .ref (F 1), .ref (F 2), .ref (F 3), .ref (F 4), .int (nI n), .ref (F 6), .ref (F 7), .int (nI ck)]))] h := hL
    have hL : stars [pt (F 7) (.inr (3, [.ref (A 0), .int (nI (v 1)), .int (nI (v 2)), .int (nI (v 3)), .int (nI (v 4)), .int (nI (v 5)), .ref (A 6), .int (nI h1), .int (nI RQ.length), .int (nI (v 9)), .ref (A 10), .int (nI h2), .int (nI RS.length), .int (nI (v 13)), .int (nI (v 14)), .ref (A 15), .int (nI K.length)])), stn (A 0) er (v 20) (B 1) (B 2), pt (A 6) (.inl (4, 16, .inr (.inr (.inr (.inr (adJ L1)))))), pt (A 10) (.inl (4, 32, .inr (.inr (.inr (.inr (adJ L2)))))), pt (A 15) (.inl (5, 8, .inr (.inr (.inr (.inr (adS K)))))), lst slt L1, lst slt L2, lst sce K, pt o (.inr (9, [.ref (F 0), .ref (F 1), .ref (F 2), .ref (F 3), .ref (F 4), .int (nI n), .ref (F 6), .ref (F 7), .int (nI ck)]))] h := stars_ixn hL 9 rfl [0, 2, 1, 3, 4, 5, 6, 7, 8] (by decide) rfl
    refine e_astore_nN 8 (ls' := [some (.ref o), some .null]) dX11_firstAttempts_7 rfl (by decide) rfl ?_
    refine e_aload_nN 9 dX11_firstAttempts_8 rfl rfl ?_
    refine e_ifnonnullN 12 dX11_firstAttempts_9 rfl ?_
    refine e_iconst 13 (v := (nI 0)) dX11_firstAttempts_12 rfl (by decide) ?_
    refine e_goto 20 dX11_firstAttempts_13 rfl ?_
    have hL : stars [pt (F 7) (.inr (3, [.ref (A 0), .int (nI (v 1)), .int (nI (v 2)), .int (nI (v 3)), .int (nI (v 4)), .int (nI (v 5)), .ref (A 6), .int (nI h1), .int (nI RQ.length), .int (nI (v 9)), .ref (A 10), .int (nI h2), .int (nI RS.length), .int (nI (v 13)), .int (nI (v 14)), .ref (A 15), .int (nI K.length)])), pt (A 6) (.inl (4, 16, .inr (.inr (.inr (.inr (adJ L1)))))), pt (A 10) (.inl (4, 32, .inr (.inr (.inr (.inr (adJ L2)))))), lst slt L1, lst slt L2, stn (A 0) er (v 20) (B 1) (B 2), pt (A 15) (.inl (5, 8, .inr (.inr (.inr (.inr (adS K)))))), lst sce K, pt o (.inr (9, [.ref (F 0), .ref (F 1), .ref (F 2), .ref (F 3), .ref (F 4), .int (nI n), .ref (F 6), .ref (F 7), .int (nI ck)]))] h := stars_ixn hL 9 rfl [0, 2, 3, 5, 6, 1, 4, 7, 8] (by decide) rfl
    have hL := mst_cj (s := (v, RQ, RS, SC, er, B)) (z := (h1, h2, N1, N2)) (q := v 20) (er := er) (B := B) hJ hK hK8 rfl rfl hL
    have hL : stars [mst (F 7) (v, RQ, RS, SC, er, B) (h1, h2, N1, N2), pt o (.inr (9, [.ref (F 0), .ref (F 1), .ref (F 2), .ref (F 3), .ref (F 4), .int (nI n), .ref (F 6), .ref (F 7), .int (nI ck)]))] h := hL
    exact e_iret dX11_firstAttempts_20 rfl (by omega) (by omega) (⟨_, ⟨by rw [faN, if_pos h0], rfl⟩, stars_ixn hL 2 rfl [1, 0] (by decide) rfl⟩)
  · obtain ⟨j, hj, hj2⟩ := ring_hd2 r1 h0
    refine p_callV 7 hL [0, 2, 1, 3, 4, 5, 6, 7, 8] 9 rfl (by decide) (L1 := [pt (F 7) (.inr (3, [.ref (A 0), .int (nI (v 1)), .int (nI (v 2)), .int (nI (v 3)), .int (nI (v 4)), .int (nI (v 5)), .ref (A 6), .int (nI h1), .int (nI RQ.length), .int (nI (v 9)), .ref (A 10), .int (nI h2), .int (nI RS.length), .int (nI (v 13)), .int (nI (v 14)), .ref (A 15), .int (nI K.length)])), pt (A 6) (.inl (4, 16, .inr (.inr (.inr (.inr (adJ L1))))))]) (L2 := [stn (A 0) er (v 20) (B 1) (B 2), pt (A 10) (.inl (4, 32, .inr (.inr (.inr (.inr (adJ L2)))))), pt (A 15) (.inl (5, 8, .inr (.inr (.inr (.inr (adS K)))))), lst slt L1, lst slt L2, lst sce K, pt o (.inr (9, [.ref (F 0), .ref (F 1), .ref (F 2), .ref (F 3), .ref (F 4), .int (nI n), .ref (F 6), .ref (F 7), .int (nI ck)]))]) rfl isO_pt 0 rfl dX11_firstAttempts_4 rfl cv_X11_243 (k_X3_firstRequest1 (g := adJ L1) h0 (by omega) (by omega) (adJ_at hj)) rfl rfl (Nat.le_of_ble_eq_true rfl) ⟨by decide, by omega, by omega⟩ (fun r1 L1 h q hL => ?_)
    obtain ⟨rfl, rfl⟩ := q
    have hL : stars [pt (F 7) (.inr (3, [.ref (A 0), .int (nI (v 1)), .int (nI (v 2)), .int (nI (v 3)), .int (nI (v 4)), .int (nI (v 5)), .ref (A 6), .int (nI h1), .int (nI RQ.length), .int (nI (v 9)), .ref (A 10), .int (nI h2), .int (nI RS.length), .int (nI (v 13)), .int (nI (v 14)), .ref (A 15), .int (nI K.length)])), pt (A 6) (.inl (4, 16, .inr (.inr (.inr (.inr (adJ L1)))))), stn (A 0) er (v 20) (B 1) (B 2), pt (A 10) (.inl (4, 32, .inr (.inr (.inr (.inr (adJ L2)))))), pt (A 15) (.inl (5, 8, .inr (.inr (.inr (.inr (adS K)))))), lst slt L1, lst slt L2, lst sce K, pt o (.inr (9, [.ref (F 0), .ref (F 1), .ref (F 2), .ref (F 3), .ref (F 4), .int (nI n), .ref (F 6), .ref (F 7), .int (nI ck)]))] h := hL
    have hL : stars [pt (F 7) (.inr (3, [.ref (A 0), .int (nI (v 1)), .int (nI (v 2)), .int (nI (v 3)), .int (nI (v 4)), .int (nI (v 5)), .ref (A 6), .int (nI h1), .int (nI RQ.length), .int (nI (v 9)), .ref (A 10), .int (nI h2), .int (nI RS.length), .int (nI (v 13)), .int (nI (v 14)), .ref (A 15), .int (nI K.length)])), stn (A 0) er (v 20) (B 1) (B 2), pt (A 6) (.inl (4, 16, .inr (.inr (.inr (.inr (adJ L1)))))), pt (A 10) (.inl (4, 32, .inr (.inr (.inr (.inr (adJ L2)))))), pt (A 15) (.inl (5, 8, .inr (.inr (.inr (.inr (adS K)))))), lst slt L1, lst slt L2, lst sce K, pt o (.inr (9, [.ref (F 0), .ref (F 1), .ref (F 2), .ref (F 3), .ref (F 4), .int (nI n), .ref (F 6), .ref (F 7), .int (nI ck)]))] h := stars_ixn hL 9 rfl [0, 2, 1, 3, 4, 5, 6, 7, 8] (by decide) rfl
    refine e_astore_n 8 (ls' := [some (.ref o), some (.ref j.1)]) dX11_firstAttempts_7 rfl (by decide) rfl ?_
    refine e_aload_n 9 dX11_firstAttempts_8 rfl rfl ?_
    refine e_ifnonnull 16 dX11_firstAttempts_9 rfl ?_
    refine e_aload_n 17 dX11_firstAttempts_16 rfl rfl ?_
    obtain ⟨z17, y17⟩ := job_rd _ 5 hL rfl hj
    refine e_get 20 dX11_firstAttempts_17 rfl fl_X11_250_2 y17 rfl ?_
    have hL : stars [pt (F 7) (.inr (3, [.ref (A 0), .int (nI (v 1)), .int (nI (v 2)), .int (nI (v 3)), .int (nI (v 4)), .int (nI (v 5)), .ref (A 6), .int (nI h1), .int (nI RQ.length), .int (nI (v 9)), .ref (A 10), .int (nI h2), .int (nI RS.length), .int (nI (v 13)), .int (nI (v 14)), .ref (A 15), .int (nI K.length)])), pt (A 6) (.inl (4, 16, .inr (.inr (.inr (.inr (adJ L1)))))), pt (A 10) (.inl (4, 32, .inr (.inr (.inr (.inr (adJ L2)))))), lst slt L1, lst slt L2, stn (A 0) er (v 20) (B 1) (B 2), pt (A 15) (.inl (5, 8, .inr (.inr (.inr (.inr (adS K)))))), lst sce K, pt o (.inr (9, [.ref (F 0), .ref (F 1), .ref (F 2), .ref (F 3), .ref (F 4), .int (nI n), .ref (F 6), .ref (F 7), .int (nI ck)]))] h := stars_ixn hL 9 rfl [0, 2, 3, 5, 6, 1, 4, 7, 8] (by decide) rfl
    have hL := mst_cj (s := (v, RQ, RS, SC, er, B)) (z := (h1, h2, N1, N2)) (q := v 20) (er := er) (B := B) hJ hK hK8 rfl rfl hL
    have hL : stars [mst (F 7) (v, RQ, RS, SC, er, B) (h1, h2, N1, N2), pt o (.inr (9, [.ref (F 0), .ref (F 1), .ref (F 2), .ref (F 3), .ref (F 4), .int (nI n), .ref (F 6), .ref (F 7), .int (nI ck)]))] h := hL
    exact e_iret dX11_firstAttempts_20 rfl (by omega) (by omega) (⟨_, ⟨by rw [faN, if_neg (show ¬ RQ.length = 0 by omega), show hdQ (v, RQ, RS, SC, er, B) = qd j from hj2 _]; rfl, rfl⟩, stars_ixn hL 2 rfl [1, 0] (by decide) rfl⟩)
theorem min_nJ {a b : Nat} (ha : a < 2 ^ 31) (hb : b < 2 ^ 31) : (if nI b < nI a then nI b else nI a) = nI (min a b) := by
  by_cases h : b < a
  · rw [if_pos (nI_lt h ha), Nat.min_eq_right (by omega)]
  · rw [if_neg (fun z => h (j_lt_t hb ha z)), Nat.min_eq_left (by omega)]
set_option maxRecDepth 20000 in
set_option maxHeartbeats 2000000 in
theorem k_X11_state {o : Nat} {tp an fr : List Nat} {D : List DS} {wv : Nat → Nat} {hs : List (Nat × Nat)} {ck : Nat} {v : Nat → Nat} {RQ : List RQE} {RS : List RSE} {SC : List SCE} {er : List Nat} {B : Nat → Bool} {h1 h2 : Nat} {N1 N2 : List Bool} {x1 : Int32} (hw2 : wv 2 < 1000000) (hv1 : v 1 < 1000) : CA mX11_state [.ref o, .int x1] [flo o (tp, an, D, (fr, wv, hs), (v, RQ, RS, SC, er, B), ck) (h1, h2, N1, N2)] (fun r K => r = some (.int (staR (tp, an, D, (fr, wv, hs), (v, RQ, RS, SC, er, B), ck) x1)) ∧ K = [flo o (tp, an, D, (fr, wv, hs), (v, RQ, RS, SC, er, B), ck) (h1, h2, N1, N2)]) 2 60 0 0 := by
  refine CA.mk 0 (ls := [some (.ref o), some (.int x1)]) rfl rfl (Nat.le_of_ble_eq_true rfl) rfl (fun h hL => ?_)
  obtain ⟨F, DL, hr, cm, hD, hl6, hL⟩ := flo_o hL
  have hL : stars [pt o (.inr (9, [.ref (F 0), .ref (F 1), .ref (F 2), .ref (F 3), .ref (F 4), .int (nI DL.length), .ref (F 6), .ref (F 7), .int (nI ck)])), row (F 0) 400 tp, row (F 1) 253 an, row (F 2) 253 hr, row (F 3) 253 cm, pt (F 4) (.inl (2, 6, .inr (.inr (.inr (.inr (adD DL)))))), wire (F 6) fr wv hs, mst (F 7) (v, RQ, RS, SC, er, B) (h1, h2, N1, N2), lst dve DL] h := hL
  have hDl : D.length = DL.length := gD_len hD
  refine e_iload_n 1 dX11_state_0 rfl rfl ?_
  by_cases hx1 : x1.toInt < 0 ∨ 16 < x1.toInt
  · refine e_tableOut 232 dX11_state_1 hx1 rfl ?_
    refine e_iconst 233 (v := (-1)) dX11_state_232 rfl (by decide) ?_
    exact e_iret dX11_state_233 rfl (by omega) (by omega) (⟨_, ⟨by rw [staR, if_pos hx1], rfl⟩, flo_c (g := (tp, an, D, (fr, wv, hs), (v, RQ, RS, SC, er, B), ck)) (X := []) hD hl6 (stars_ixn hL 9 rfl [0, 1, 2, 3, 4, 5, 6, 7, 8] (by decide) rfl)⟩)
  · obtain ⟨n1, e1, r1, t1⟩ := sw_nat (by decide) hx1
    subst e1
    rcases (show (n1 = 0) ∨ (n1 = 1) ∨ (n1 = 2) ∨ (n1 = 3) ∨ (n1 = 4) ∨ (n1 = 5) ∨ (n1 = 6) ∨ (n1 = 7) ∨ (n1 = 8) ∨ (n1 = 9) ∨ (n1 = 10) ∨ (n1 = 11) ∨ (n1 = 12) ∨ (n1 = 13) ∨ (n1 = 14) ∨ (n1 = 15) ∨ (n1 = 16) by omega) with s1 | s1 | s1 | s1 | s1 | s1 | s1 | s1 | s1 | s1 | s1 | s1 | s1 | s1 | s1 | s1 | s1
    · refine e_tableIn 84 (off := 83) dX11_state_1 (by rw [nI_toInt (by omega)]; omega) (by rw [nI_toInt (by omega)]; omega) (by rw [s1]; decide) rfl ?_
      refine e_aload_n 85 dX11_state_84 rfl rfl ?_
      refine e_get 88 dX11_state_85 rfl fl_X11_51_9 (stars_at _ 0 hL rfl) rfl ?_
      exact e_iret dX11_state_88 rfl (by omega) (by omega) (⟨_, ⟨by rw [staR, if_neg hx1, nI_clamp (by omega), s1]; rfl, rfl⟩, flo_c (g := (tp, an, D, (fr, wv, hs), (v, RQ, RS, SC, er, B), ck)) (X := []) hD hl6 (stars_ixn hL 9 rfl [0, 1, 2, 3, 4, 5, 6, 7, 8] (by decide) rfl)⟩)
    · refine e_tableIn 89 (off := 88) dX11_state_1 (by rw [nI_toInt (by omega)]; omega) (by rw [nI_toInt (by omega)]; omega) (by rw [s1]; decide) rfl ?_
      refine e_aload_n 90 dX11_state_89 rfl rfl ?_
      refine e_get 93 dX11_state_90 rfl fl_X11_40_9 (stars_at _ 0 hL rfl) rfl ?_
      obtain ⟨z93, y93⟩ := wire_rd _ 6 hL rfl 
      refine e_get 96 dX11_state_93 rfl fl_X11_211_8 y93 rfl ?_
      exact e_iret dX11_state_96 rfl (by omega) (by omega) (⟨_, ⟨by rw [staR, if_neg hx1, nI_clamp (by omega), s1]; rfl, rfl⟩, flo_c (g := (tp, an, D, (fr, wv, hs), (v, RQ, RS, SC, er, B), ck)) (X := []) hD hl6 (stars_ixn hL 9 rfl [0, 1, 2, 3, 4, 5, 6, 7, 8] (by decide) rfl)⟩)
    · refine e_tableIn 97 (off := 96) dX11_state_1 (by rw [nI_toInt (by omega)]; omega) (by rw [nI_toInt (by omega)]; omega) (by rw [s1]; decide) rfl ?_
      refine e_aload_n 98 dX11_state_97 rfl rfl ?_
      refine e_get 101 dX11_state_98 rfl fl_X11_40_9 (stars_at _ 0 hL rfl) rfl ?_
      obtain ⟨z101, y101⟩ := wire_rd _ 6 hL rfl 
      refine e_get 104 dX11_state_101 rfl fl_X11_214_8 y101 rfl ?_
      refine e_sipush 107 (v := (nI 1000)) dX11_state_104 rfl (by decide) ?_
      refine e_min 110 (v := (nI (min (wv 2) 1000))) dX11_state_107 rfl mi_X11_336 (by decide) (Nat.le_of_ble_eq_true rfl) (by omega) (min_nJ (by omega) (by decide)) ?_
      exact e_iret dX11_state_110 rfl (by omega) (by omega) (⟨_, ⟨by rw [staR, if_neg hx1, nI_clamp (by omega), s1]; rfl, rfl⟩, flo_c (g := (tp, an, D, (fr, wv, hs), (v, RQ, RS, SC, er, B), ck)) (X := []) hD hl6 (stars_ixn hL 9 rfl [0, 1, 2, 3, 4, 5, 6, 7, 8] (by decide) rfl)⟩)
    · refine e_tableIn 111 (off := 110) dX11_state_1 (by rw [nI_toInt (by omega)]; omega) (by rw [nI_toInt (by omega)]; omega) (by rw [s1]; decide) rfl ?_
      refine e_aload_n 112 dX11_state_111 rfl rfl ?_
      refine e_get 115 dX11_state_112 rfl fl_X11_47_9 (stars_at _ 0 hL rfl) rfl ?_
      obtain ⟨z115, y115⟩ := mst_rd _ 7 hL rfl 
      refine e_get 118 dX11_state_115 rfl fl_X11_247_3 y115 rfl ?_
      exact e_iret dX11_state_118 rfl (by omega) (by omega) (⟨_, ⟨by rw [staR, if_neg hx1, nI_clamp (by omega), s1]; rfl, rfl⟩, flo_c (g := (tp, an, D, (fr, wv, hs), (v, RQ, RS, SC, er, B), ck)) (X := []) hD hl6 (stars_ixn hL 9 rfl [0, 1, 2, 3, 4, 5, 6, 7, 8] (by decide) rfl)⟩)
    · refine e_tableIn 119 (off := 118) dX11_state_1 (by rw [nI_toInt (by omega)]; omega) (by rw [nI_toInt (by omega)]; omega) (by rw [s1]; decide) rfl ?_
      refine e_aload_n 120 dX11_state_119 rfl rfl ?_
      refine e_get 123 dX11_state_120 rfl fl_X11_47_9 (stars_at _ 0 hL rfl) rfl ?_
      obtain ⟨z123, y123⟩ := mst_rd _ 7 hL rfl 
      refine e_get 126 dX11_state_123 rfl fl_X11_247_3 y123 rfl ?_
      refine e_iconst 127 (v := (nI 2)) dX11_state_126 rfl (by decide) ?_
      refine e_icmp_ne 140 130 dX11_state_127 rfl rfl (fun c127 => ?_) (fun c127 => ?_)
      · have k127 := j_ne_t (a := (v 1)) (b := 2) (by omega) (by omega) c127
        refine e_iconst 141 (v := (nI 0)) dX11_state_140 rfl (by decide) ?_
        exact e_iret dX11_state_141 rfl (by omega) (by omega) (⟨_, ⟨by rw [staR, if_neg hx1, nI_clamp (by omega), s1]; exact congrArg (fun y => some (Value.int (nI y))) (if_neg k127).symm, rfl⟩, flo_c (g := (tp, an, D, (fr, wv, hs), (v, RQ, RS, SC, er, B), ck)) (X := []) hD hl6 (stars_ixn hL 9 rfl [0, 1, 2, 3, 4, 5, 6, 7, 8] (by decide) rfl)⟩)
      · have k127 := j_ne_f (a := (v 1)) (b := 2) (by omega) (by omega) c127
        refine e_aload_n 131 dX11_state_130 rfl rfl ?_
        refine e_get 134 dX11_state_131 rfl fl_X11_47_9 (stars_at _ 0 hL rfl) rfl ?_
        obtain ⟨z134, y134⟩ := mst_rd _ 7 hL rfl 
        refine e_get 137 dX11_state_134 rfl fl_X11_342_3 y134 rfl ?_
        refine e_goto 141 dX11_state_137 rfl ?_
        exact e_iret dX11_state_141 rfl (by omega) (by omega) (⟨_, ⟨by rw [staR, if_neg hx1, nI_clamp (by omega), s1]; exact congrArg (fun y => some (Value.int (nI y))) (if_pos k127).symm, rfl⟩, flo_c (g := (tp, an, D, (fr, wv, hs), (v, RQ, RS, SC, er, B), ck)) (X := []) hD hl6 (stars_ixn hL 9 rfl [0, 1, 2, 3, 4, 5, 6, 7, 8] (by decide) rfl)⟩)
    · refine e_tableIn 142 (off := 141) dX11_state_1 (by rw [nI_toInt (by omega)]; omega) (by rw [nI_toInt (by omega)]; omega) (by rw [s1]; decide) rfl ?_
      refine e_aload_n 143 dX11_state_142 rfl rfl ?_
      refine e_get 146 dX11_state_143 rfl fl_X11_47_9 (stars_at _ 0 hL rfl) rfl ?_
      obtain ⟨z146, y146⟩ := mst_rd _ 7 hL rfl 
      refine e_get 149 dX11_state_146 rfl fl_X11_345_3 y146 rfl ?_
      exact e_iret dX11_state_149 rfl (by omega) (by omega) (⟨_, ⟨by rw [staR, if_neg hx1, nI_clamp (by omega), s1]; rfl, rfl⟩, flo_c (g := (tp, an, D, (fr, wv, hs), (v, RQ, RS, SC, er, B), ck)) (X := []) hD hl6 (stars_ixn hL 9 rfl [0, 1, 2, 3, 4, 5, 6, 7, 8] (by decide) rfl)⟩)
    · refine e_tableIn 150 (off := 149) dX11_state_1 (by rw [nI_toInt (by omega)]; omega) (by rw [nI_toInt (by omega)]; omega) (by rw [s1]; decide) rfl ?_
      refine e_aload_n 151 dX11_state_150 rfl rfl ?_
      refine p_callV 154 hL [0, 7, 1, 2, 3, 4, 5, 6, 8] 9 rfl (by decide) (L1 := [pt o (.inr (9, [.ref (F 0), .ref (F 1), .ref (F 2), .ref (F 3), .ref (F 4), .int (nI DL.length), .ref (F 6), .ref (F 7), .int (nI ck)])), mst (F 7) (v, RQ, RS, SC, er, B) (h1, h2, N1, N2)]) (L2 := [row (F 0) 400 tp, row (F 1) 253 an, row (F 2) 253 hr, row (F 3) 253 cm, pt (F 4) (.inl (2, 6, .inr (.inr (.inr (.inr (adD DL)))))), wire (F 6) fr wv hs, lst dve DL]) rfl isO_pt 0 rfl dX11_state_151 rfl cv_X11_348 (k_X11_firstAttempts (F := F)) rfl rfl (Nat.le_of_ble_eq_true rfl) ⟨by decide, by omega, by omega⟩ (fun r1 L1 h q hL => ?_)
      obtain ⟨rfl, rfl⟩ := q
      have hL : stars [pt o (.inr (9, [.ref (F 0), .ref (F 1), .ref (F 2), .ref (F 3), .ref (F 4), .int (nI DL.length), .ref (F 6), .ref (F 7), .int (nI ck)])), mst (F 7) (v, RQ, RS, SC, er, B) (h1, h2, N1, N2), row (F 0) 400 tp, row (F 1) 253 an, row (F 2) 253 hr, row (F 3) 253 cm, pt (F 4) (.inl (2, 6, .inr (.inr (.inr (.inr (adD DL)))))), wire (F 6) fr wv hs, lst dve DL] h := hL
      have hL : stars [pt o (.inr (9, [.ref (F 0), .ref (F 1), .ref (F 2), .ref (F 3), .ref (F 4), .int (nI DL.length), .ref (F 6), .ref (F 7), .int (nI ck)])), row (F 0) 400 tp, row (F 1) 253 an, row (F 2) 253 hr, row (F 3) 253 cm, pt (F 4) (.inl (2, 6, .inr (.inr (.inr (.inr (adD DL)))))), wire (F 6) fr wv hs, mst (F 7) (v, RQ, RS, SC, er, B) (h1, h2, N1, N2), lst dve DL] h := stars_ixn hL 9 rfl [0, 2, 3, 4, 5, 6, 7, 1, 8] (by decide) rfl
      exact e_iret dX11_state_154 rfl (by omega) (by omega) (⟨_, ⟨by rw [staR, if_neg hx1, nI_clamp (by omega), s1]; rfl, rfl⟩, flo_c (g := (tp, an, D, (fr, wv, hs), (v, RQ, RS, SC, er, B), ck)) (X := []) hD hl6 (stars_ixn hL 9 rfl [0, 1, 2, 3, 4, 5, 6, 7, 8] (by decide) rfl)⟩)
    · refine e_tableIn 155 (off := 154) dX11_state_1 (by rw [nI_toInt (by omega)]; omega) (by rw [nI_toInt (by omega)]; omega) (by rw [s1]; decide) rfl ?_
      refine e_aload_n 156 dX11_state_155 rfl rfl ?_
      refine e_get 159 dX11_state_156 rfl fl_X11_47_9 (stars_at _ 0 hL rfl) rfl ?_
      obtain ⟨z159, y159⟩ := mst_rd _ 7 hL rfl 
      refine e_get 162 dX11_state_159 rfl fl_X11_351_3 y159 rfl ?_
      exact e_iret dX11_state_162 rfl (by omega) (by omega) (⟨_, ⟨by rw [staR, if_neg hx1, nI_clamp (by omega), s1]; rfl, rfl⟩, flo_c (g := (tp, an, D, (fr, wv, hs), (v, RQ, RS, SC, er, B), ck)) (X := []) hD hl6 (stars_ixn hL 9 rfl [0, 1, 2, 3, 4, 5, 6, 7, 8] (by decide) rfl)⟩)
    · refine e_tableIn 163 (off := 162) dX11_state_1 (by rw [nI_toInt (by omega)]; omega) (by rw [nI_toInt (by omega)]; omega) (by rw [s1]; decide) rfl ?_
      refine e_aload_n 164 dX11_state_163 rfl rfl ?_
      refine e_get 167 dX11_state_164 rfl fl_X11_47_9 (stars_at _ 0 hL rfl) rfl ?_
      obtain ⟨z167, y167⟩ := mst_rd _ 7 hL rfl 
      refine e_get 170 dX11_state_167 rfl fl_X11_354_3 y167 rfl ?_
      exact e_iret dX11_state_170 rfl (by omega) (by omega) (⟨_, ⟨by rw [staR, if_neg hx1, nI_clamp (by omega), s1]; rfl, rfl⟩, flo_c (g := (tp, an, D, (fr, wv, hs), (v, RQ, RS, SC, er, B), ck)) (X := []) hD hl6 (stars_ixn hL 9 rfl [0, 1, 2, 3, 4, 5, 6, 7, 8] (by decide) rfl)⟩)
    · refine e_tableIn 171 (off := 170) dX11_state_1 (by rw [nI_toInt (by omega)]; omega) (by rw [nI_toInt (by omega)]; omega) (by rw [s1]; decide) rfl ?_
      refine e_aload_n 172 dX11_state_171 rfl rfl ?_
      refine e_get 175 dX11_state_172 rfl fl_X11_47_9 (stars_at _ 0 hL rfl) rfl ?_
      obtain ⟨z175, y175⟩ := mst_rd _ 7 hL rfl 
      refine e_get 178 dX11_state_175 rfl fl_X11_357_3 y175 rfl ?_
      exact e_iret dX11_state_178 rfl (by omega) (by omega) (⟨_, ⟨by rw [staR, if_neg hx1, nI_clamp (by omega), s1]; rfl, rfl⟩, flo_c (g := (tp, an, D, (fr, wv, hs), (v, RQ, RS, SC, er, B), ck)) (X := []) hD hl6 (stars_ixn hL 9 rfl [0, 1, 2, 3, 4, 5, 6, 7, 8] (by decide) rfl)⟩)
    · refine e_tableIn 179 (off := 178) dX11_state_1 (by rw [nI_toInt (by omega)]; omega) (by rw [nI_toInt (by omega)]; omega) (by rw [s1]; decide) rfl ?_
      refine e_aload_n 180 dX11_state_179 rfl rfl ?_
      refine e_get 183 dX11_state_180 rfl fl_X11_40_9 (stars_at _ 0 hL rfl) rfl ?_
      obtain ⟨z183, y183⟩ := wire_rd _ 6 hL rfl 
      refine e_get 186 dX11_state_183 rfl fl_X11_199_8 y183 rfl ?_
      exact e_iret dX11_state_186 rfl (by omega) (by omega) (⟨_, ⟨by rw [staR, if_neg hx1, nI_clamp (by omega), s1]; rfl, rfl⟩, flo_c (g := (tp, an, D, (fr, wv, hs), (v, RQ, RS, SC, er, B), ck)) (X := []) hD hl6 (stars_ixn hL 9 rfl [0, 1, 2, 3, 4, 5, 6, 7, 8] (by decide) rfl)⟩)
    · refine e_tableIn 187 (off := 186) dX11_state_1 (by rw [nI_toInt (by omega)]; omega) (by rw [nI_toInt (by omega)]; omega) (by rw [s1]; decide) rfl ?_
      refine e_aload_n 188 dX11_state_187 rfl rfl ?_
      refine e_get 191 dX11_state_188 rfl fl_X11_40_9 (stars_at _ 0 hL rfl) rfl ?_
      obtain ⟨z191, y191⟩ := wire_rd _ 6 hL rfl 
      refine e_get 194 dX11_state_191 rfl fl_X11_360_8 y191 rfl ?_
      exact e_iret dX11_state_194 rfl (by omega) (by omega) (⟨_, ⟨by rw [staR, if_neg hx1, nI_clamp (by omega), s1]; rfl, rfl⟩, flo_c (g := (tp, an, D, (fr, wv, hs), (v, RQ, RS, SC, er, B), ck)) (X := []) hD hl6 (stars_ixn hL 9 rfl [0, 1, 2, 3, 4, 5, 6, 7, 8] (by decide) rfl)⟩)
    · refine e_tableIn 195 (off := 194) dX11_state_1 (by rw [nI_toInt (by omega)]; omega) (by rw [nI_toInt (by omega)]; omega) (by rw [s1]; decide) rfl ?_
      refine e_aload_n 196 dX11_state_195 rfl rfl ?_
      refine e_get 199 dX11_state_196 rfl fl_X11_33_9 (stars_at _ 0 hL rfl) rfl ?_
      exact e_iret dX11_state_199 rfl (by omega) (by omega) (⟨_, ⟨by rw [staR, if_neg hx1, nI_clamp (by omega), s1]; exact congrArg (fun y => some (Value.int (nI y))) hDl.symm, rfl⟩, flo_c (g := (tp, an, D, (fr, wv, hs), (v, RQ, RS, SC, er, B), ck)) (X := []) hD hl6 (stars_ixn hL 9 rfl [0, 1, 2, 3, 4, 5, 6, 7, 8] (by decide) rfl)⟩)
    · refine e_tableIn 200 (off := 199) dX11_state_1 (by rw [nI_toInt (by omega)]; omega) (by rw [nI_toInt (by omega)]; omega) (by rw [s1]; decide) rfl ?_
      refine e_aload_n 201 dX11_state_200 rfl rfl ?_
      refine e_get 204 dX11_state_201 rfl fl_X11_47_9 (stars_at _ 0 hL rfl) rfl ?_
      obtain ⟨z204, y204⟩ := mst_rd _ 7 hL rfl 
      refine e_get 207 dX11_state_204 rfl fl_X11_363_3 y204 rfl ?_
      exact e_iret dX11_state_207 rfl (by omega) (by omega) (⟨_, ⟨by rw [staR, if_neg hx1, nI_clamp (by omega), s1]; rfl, rfl⟩, flo_c (g := (tp, an, D, (fr, wv, hs), (v, RQ, RS, SC, er, B), ck)) (X := []) hD hl6 (stars_ixn hL 9 rfl [0, 1, 2, 3, 4, 5, 6, 7, 8] (by decide) rfl)⟩)
    · refine e_tableIn 208 (off := 207) dX11_state_1 (by rw [nI_toInt (by omega)]; omega) (by rw [nI_toInt (by omega)]; omega) (by rw [s1]; decide) rfl ?_
      refine e_aload_n 209 dX11_state_208 rfl rfl ?_
      refine e_get 212 dX11_state_209 rfl fl_X11_14_9 (stars_at _ 0 hL rfl) rfl ?_
      obtain ⟨z212, y212⟩ := row_at _ 1 hL rfl
      refine e_get 215 dX11_state_212 rfl fl_X11_54_4 y212 rfl ?_
      exact e_iret dX11_state_215 rfl (by omega) (by omega) (⟨_, ⟨by rw [staR, if_neg hx1, nI_clamp (by omega), s1]; rfl, rfl⟩, flo_c (g := (tp, an, D, (fr, wv, hs), (v, RQ, RS, SC, er, B), ck)) (X := []) hD hl6 (stars_ixn hL 9 rfl [0, 1, 2, 3, 4, 5, 6, 7, 8] (by decide) rfl)⟩)
    · refine e_tableIn 216 (off := 215) dX11_state_1 (by rw [nI_toInt (by omega)]; omega) (by rw [nI_toInt (by omega)]; omega) (by rw [s1]; decide) rfl ?_
      refine e_aload_n 217 dX11_state_216 rfl rfl ?_
      refine e_get 220 dX11_state_217 rfl fl_X11_18_9 (stars_at _ 0 hL rfl) rfl ?_
      obtain ⟨z220, y220⟩ := row_at _ 2 hL rfl
      refine e_get 223 dX11_state_220 rfl fl_X11_54_4 y220 rfl ?_
      exact e_iret dX11_state_223 rfl (by omega) (by omega) (⟨_, ⟨by rw [staR, if_neg hx1, nI_clamp (by omega), s1]; rfl, rfl⟩, flo_c (g := (tp, an, D, (fr, wv, hs), (v, RQ, RS, SC, er, B), ck)) (X := []) hD hl6 (stars_ixn hL 9 rfl [0, 1, 2, 3, 4, 5, 6, 7, 8] (by decide) rfl)⟩)
    · refine e_tableIn 224 (off := 223) dX11_state_1 (by rw [nI_toInt (by omega)]; omega) (by rw [nI_toInt (by omega)]; omega) (by rw [s1]; decide) rfl ?_
      refine e_aload_n 225 dX11_state_224 rfl rfl ?_
      refine e_get 228 dX11_state_225 rfl fl_X11_40_9 (stars_at _ 0 hL rfl) rfl ?_
      obtain ⟨z228, y228⟩ := wire_rd _ 6 hL rfl 
      refine e_get 231 dX11_state_228 rfl fl_X11_366_8 y228 rfl ?_
      exact e_iret dX11_state_231 rfl (by omega) (by omega) (⟨_, ⟨by rw [staR, if_neg hx1, nI_clamp (by omega), s1]; rfl, rfl⟩, flo_c (g := (tp, an, D, (fr, wv, hs), (v, RQ, RS, SC, er, B), ck)) (X := []) hD hl6 (stars_ixn hL 9 rfl [0, 1, 2, 3, 4, 5, 6, 7, 8] (by decide) rfl)⟩)
