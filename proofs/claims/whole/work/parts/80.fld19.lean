/-! FieldLine: tick and data, where they return -/
def tkN : Nat → GS × HD → GS × HD
  | 0, x => x
  | i + 1, x => (stG (tkN i x).1, stH (tkN i x).1 (tkN i x).2)
def tkGS : Nat → GS → GS
  | 0, g => g
  | i + 1, g => stG (tkGS i g)
theorem tkN_1 (x : GS × HD) : ∀ i, (tkN i x).1 = tkGS i x.1
  | 0 => rfl
  | i + 1 => by rw [tkN, tkGS, tkN_1 x i]
theorem ov_tk {t : Nat} {g : GS} (h : okV (bnd t) g) : ∀ i, okV (bnd (t + i)) (tkGS i g)
  | 0 => h
  | i + 1 => ov_st (ov_tk h i)
theorem bnd_lt {t : Nat} (ht : t < 800000) : (∀ k, k ≠ 5 → k ≠ 9 → bnd t k < 1600000) ∧ bnd t 5 < 79999990 ∧ bnd t 9 < 90000000 := by
  refine ⟨fun k h5 h9 => ?_, ?_, ?_⟩
  · unfold bnd
    (repeat' split) <;> omega
  · show 8 * t < _; omega
  · show t + 30000 < _; omega
theorem nul_le {s : MS} {z : HD} (hk : hokH s z) : nul z ≤ 48 := by
  have h1 := List.countP_le_length (p := fun b : Bool => !b) (l := z.2.2.1)
  have h2 := List.countP_le_length (p := fun b : Bool => !b) (l := z.2.2.2)
  rw [hk.1] at h1
  rw [hk.2.2.1] at h2
  unfold nul
  omega
set_option maxRecDepth 20000 in
set_option maxHeartbeats 2000000 in
theorem l_X11_tick {o t nt : Nat} {g : GS} {z : HD} (hv : okV (bnd t) g) (ht : t + nt < 440000) (hn1 : nt ≤ 1000) : ∀ (n : Nat) (i : Nat) (ce sl : Nat) (h : eH), nt - i < n → i ≤ nt → ce + 3 * nul (tkN i (g, z)).2 ≤ 144 → sl + 261 * nul (tkN i (g, z)).2 ≤ 12528 → stars [flo o (tkN i (g, z)).1 (tkN i (g, z)).2] h → EE mX11_tick 7 240 144 12528 (fun r h' => ∃ K, (r = some (.int (nI ((tkN nt (g, z)).1.2.2.2.1.2.1 9) - nI (g.2.2.2.1.2.1 9))) ∧ K = [flo o (tkN nt (g, z)).1 (tkN nt (g, z)).2]) ∧ stars K h') 31 [some (.ref o), some (.int (nI nt)), some (.int (nI (g.2.2.2.1.2.1 9))), some (.int (nI i))] [] h ce sl := by
  intro n
  induction n with
  | zero => intro i ce sl h hlt hle hce hsl hL; exact absurd hlt (by omega)
  | succ n ih =>
    intro i ce sl h hlt hle hce hsl hL
    refine e_iload_n 32 dX11_tick_31 rfl rfl ?_
    refine e_iload_n 33 dX11_tick_32 rfl rfl ?_
    refine e_icmp_ge 46 36 dX11_tick_33 rfl rfl (fun c33 => ?_) (fun c33 => ?_)
    · have k33 := j_ge_t (a := i) (b := nt) (by omega) (by omega) c33
      have hin : i = nt := by omega
      subst hin
      obtain ⟨F, DL, hr, cm, hD, hl6, hL⟩ := flo_o hL
      have hL : stars [pt o (.inr (9, [.ref (F 0), .ref (F 1), .ref (F 2), .ref (F 3), .ref (F 4), .int (nI DL.length), .ref (F 6), .ref (F 7), .int (nI (tkN i (g, z)).1.2.2.2.2.2)])), row (F 0) 400 ((tkN i (g, z)).1.1), row (F 1) 253 ((tkN i (g, z)).1.2.1), row (F 2) 253 hr, row (F 3) 253 cm, pt (F 4) (.inl (2, 6, .inr (.inr (.inr (.inr (adD DL)))))), wire (F 6) ((tkN i (g, z)).1.2.2.2.1.1) ((tkN i (g, z)).1.2.2.2.1.2.1) ((tkN i (g, z)).1.2.2.2.1.2.2), mst (F 7) ((tkN i (g, z)).1.2.2.2.2.1) ((tkN i (g, z)).2), lst dve DL] h := hL
      refine e_aload_n 47 dX11_tick_46 rfl rfl ?_
      refine e_get 50 dX11_tick_47 rfl fl_X11_40_9 (stars_at _ 0 hL rfl) rfl ?_
      obtain ⟨z50, y50⟩ := wire_rd _ 6 hL rfl 
      refine e_get 53 dX11_tick_50 rfl fl_X11_199_8 y50 rfl ?_
      refine e_iload_n 54 dX11_tick_53 rfl rfl ?_
      refine e_isub 55 (v := (nI ((tkN i (g, z)).1.2.2.2.1.2.1 9) - nI (g.2.2.2.1.2.1 9))) dX11_tick_54 rfl rfl ?_
      exact e_iret dX11_tick_55 rfl (by omega) (by omega) (⟨_, ⟨rfl, rfl⟩, flo_c (g := (tkN i (g, z)).1) (z := (tkN i (g, z)).2) (X := []) hD hl6 (stars_ixn hL 9 rfl [0, 1, 2, 3, 4, 5, 6, 7, 8] (by decide) rfl)⟩)
    · have k33 := j_ge_f (a := i) (b := nt) (by omega) (by omega) c33
      refine e_aload_n 37 dX11_tick_36 rfl rfl ?_
      have hkH := flo_hk _ 0 hL rfl
      have hmo : nul (s2H (s1G (tkN i (g, z)).1) (tkN i (g, z)).2) ≤ nul (tkN i (g, z)).2 := by have := nul_scX (c := (s1G (tkN i (g, z)).1).2.2.2.2.2) (x := ((s1G (tkN i (g, z)).1).2.2.2.2.1, (tkN i (g, z)).2)) hkH.1 hkH.2.1 0 (s1G (tkN i (g, z)).1).2.2.2.2.1.2.2.2.1.length; rw [Nat.zero_add] at this; exact this
      have hvi := ov_tk hv i
      rw [← tkN_1 (g, z)] at hvi
      obtain ⟨bk1, bk5, bk9⟩ := bnd_lt (t := t + i) (by omega)
      refine p_callV 40 hL [0] 1 rfl (by decide) (L1 := [flo o (tkN i (g, z)).1 (tkN i (g, z)).2]) (L2 := []) rfl flo_O 0 rfl dX11_tick_37 rfl cv_X11_202 (k_X11_step (mc := 3 * (nul (tkN i (g, z)).2 - nul (s2H (s1G (tkN i (g, z)).1) (tkN i (g, z)).2))) (ms := 261 * (nul (tkN i (g, z)).2 - nul (s2H (s1G (tkN i (g, z)).1) (tkN i (g, z)).2))) hvi.1 (fun k h5 h9 => by have : bnd (t + i) k ≤ 2 * (t + i) := (by unfold bnd; (repeat' split) <;> omega); omega) bk5 bk9 (Nat.le_refl _) (by omega) (by omega)) rfl rfl (Nat.le_of_ble_eq_true rfl) ⟨by decide, by omega, by omega⟩ (fun r1 L1 h q hL => ?_)
      obtain ⟨⟨rfl, hnn⟩, rfl⟩ := q
      have hL : stars [flo o (stG (tkN i (g, z)).1) (stH (tkN i (g, z)).1 (tkN i (g, z)).2)] h := hL
      refine e_iinc 43 (v := (nI (i + 1))) (ls' := [some (.ref o), some (.int (nI nt)), some (.int (nI (g.2.2.2.1.2.1 9))), some (.int (nI (i + 1)))]) dX11_tick_40 rfl rfl (nI_add i 1) (by decide) rfl ?_
      refine e_goto 31 dX11_tick_43 rfl ?_
      exact ih (i + 1) _ _ h (by omega) (by omega) (by show _ + 3 * nul (stH (tkN i (g, z)).1 (tkN i (g, z)).2) ≤ 144; omega) (by show _ + 261 * nul (stH (tkN i (g, z)).1 (tkN i (g, z)).2) ≤ 12528; omega) hL
set_option maxRecDepth 20000 in
set_option maxHeartbeats 2000000 in
theorem k_X11_tick {o t nt : Nat} {g : GS} {z : HD} (hv : okV (bnd t) g) (ht : t + nt < 440000) (na : 1 ≤ nt) (nb : nt ≤ 1000) : CA mX11_tick [.ref o, .int (nI nt)] [flo o g z] (fun r K => r = some (.int (nI ((tkN nt (g, z)).1.2.2.2.1.2.1 9) - nI (g.2.2.2.1.2.1 9))) ∧ K = [flo o (tkN nt (g, z)).1 (tkN nt (g, z)).2]) 7 240 144 12528 := by
  refine CA.mk 2 (ls := [some (.ref o), some (.int (nI nt)), none, none]) rfl rfl (Nat.le_of_ble_eq_true rfl) rfl (fun h hL => ?_)
  have hx : inI (nI nt) (nI 1) (nI 1000) = true := by simp only [inI, Bool.and_eq_true, decide_eq_true_eq]; exact ⟨nI_le na (by omega), nI_le nb (by decide)⟩
  refine e_iload_n 1 dX11_tick_0 rfl rfl ?_
  refine e_iconst 2 (v := (nI 1)) dX11_tick_1 rfl (by decide) ?_
  refine e_sipush 5 (v := (nI 1000)) dX11_tick_2 rfl (by decide) ?_
  refine p_callS 8 hL [0] 1 rfl (by decide) (L1 := []) (L2 := [flo o g z]) rfl dX11_tick_5 rfl cs_X11_71 k_X11_withinI rfl rfl (Nat.le_of_ble_eq_true rfl) ⟨by decide, by omega, by omega⟩ (fun r1 L1 h q hL => ?_)
  obtain ⟨rfl, rfl⟩ := q
  have hL : stars [flo o g z] h := hL
  refine e_if_ne 21 11 dX11_tick_8 rfl rfl (fun c8 => ?_) (fun c8 => absurd c8 (by rw [hx]; decide))
  obtain ⟨F, DL, hr, cm, hD, hl6, hL⟩ := flo_o hL
  have hL : stars [pt o (.inr (9, [.ref (F 0), .ref (F 1), .ref (F 2), .ref (F 3), .ref (F 4), .int (nI DL.length), .ref (F 6), .ref (F 7), .int (nI g.2.2.2.2.2)])), row (F 0) 400 g.1, row (F 1) 253 g.2.1, row (F 2) 253 hr, row (F 3) 253 cm, pt (F 4) (.inl (2, 6, .inr (.inr (.inr (.inr (adD DL)))))), wire (F 6) g.2.2.2.1.1 g.2.2.2.1.2.1 g.2.2.2.1.2.2, mst (F 7) g.2.2.2.2.1 z, lst dve DL] h := hL
  refine e_aload_n 22 dX11_tick_21 rfl rfl ?_
  refine e_get 25 dX11_tick_22 rfl fl_X11_40_9 (stars_at _ 0 hL rfl) rfl ?_
  obtain ⟨z25, y25⟩ := wire_rd _ 6 hL rfl 
  refine e_get 28 dX11_tick_25 rfl fl_X11_199_8 y25 rfl ?_
  refine e_istore_n 29 (ls' := [some (.ref o), some (.int (nI nt)), some (.int (nI (g.2.2.2.1.2.1 9))), none]) dX11_tick_28 rfl (by decide) rfl ?_
  refine e_iconst 30 (v := (nI 0)) dX11_tick_29 rfl (by decide) ?_
  refine e_istore_n 31 (ls' := [some (.ref o), some (.int (nI nt)), some (.int (nI (g.2.2.2.1.2.1 9))), some (.int (nI 0))]) dX11_tick_30 rfl (by decide) rfl ?_
  have hL := flo_c (g := g) (z := z) (X := []) hD hl6 (stars_ixn hL 9 rfl [0, 1, 2, 3, 4, 5, 6, 7, 8] (by decide) rfl)
  have hL : stars [flo o g z] h := hL
  have hkH := flo_hk _ 0 hL rfl
  have hn48 := nul_le hkH
  exact l_X11_tick (g := g) (z := z) hv ht nb _ 0 _ _ h (Nat.lt_succ_self _) (Nat.zero_le _) (by show _ + 3 * nul z ≤ 144; omega) (by show _ + 261 * nul z ≤ 12528; omega) hL
set_option maxRecDepth 20000 in
set_option maxHeartbeats 2000000 in
theorem k_X11_data {o : Nat} {tp an fr : List Nat} {D : List DS} {wv : Nat → Nat} {hs : List (Nat × Nat)} {ck : Nat} {v : Nat → Nat} {RQ : List RQE} {RS : List RSE} {SC : List SCE} {er : List Nat} {B : Nat → Bool} {h1 h2 : Nat} {N1 N2 : List Bool} {k : Nat} (h00 : 0 < RS.length) (hk : k < (hdS (tp, an, D, (fr, wv, hs), (v, RQ, RS, SC, er, B), ck)).1.length) : CA mX11_data [.ref o, .int (nI k)] [flo o (tp, an, D, (fr, wv, hs), (v, RQ, RS, SC, er, B), ck) (h1, h2, N1, N2)] (fun r K => r = some (.int (nI ((hdS (tp, an, D, (fr, wv, hs), (v, RQ, RS, SC, er, B), ck)).1.getD k 0))) ∧ K = [flo o (tp, an, D, (fr, wv, hs), (v, RQ, RS, SC, er, B), ck) (h1, h2, N1, N2)]) 1 30 0 0 := by
  refine CA.mk 1 (ls := [some (.ref o), some (.int (nI k)), none]) rfl rfl (Nat.le_of_ble_eq_true rfl) rfl (fun h hL => ?_)
  obtain ⟨F, DL, hr, cm, hD, hl6, hL⟩ := flo_o hL
  have hL : stars [pt o (.inr (9, [.ref (F 0), .ref (F 1), .ref (F 2), .ref (F 3), .ref (F 4), .int (nI DL.length), .ref (F 6), .ref (F 7), .int (nI ck)])), row (F 0) 400 tp, row (F 1) 253 an, row (F 2) 253 hr, row (F 3) 253 cm, pt (F 4) (.inl (2, 6, .inr (.inr (.inr (.inr (adD DL)))))), wire (F 6) fr wv hs, mst (F 7) (v, RQ, RS, SC, er, B) (h1, h2, N1, N2), lst dve DL] h := hL
  have hDl : D.length = DL.length := gD_len hD
  refine e_aload_n 1 dX11_data_0 rfl rfl ?_
  refine e_get 4 dX11_data_1 rfl fl_X11_47_9 (stars_at _ 0 hL rfl) rfl ?_
  have hL : stars [mst (F 7) (v, RQ, RS, SC, er, B) (h1, h2, N1, N2), pt o (.inr (9, [.ref (F 0), .ref (F 1), .ref (F 2), .ref (F 3), .ref (F 4), .int (nI DL.length), .ref (F 6), .ref (F 7), .int (nI ck)])), row (F 0) 400 tp, row (F 1) 253 an, row (F 2) 253 hr, row (F 3) 253 cm, pt (F 4) (.inl (2, 6, .inr (.inr (.inr (.inr (adD DL)))))), wire (F 6) fr wv hs, lst dve DL] h := stars_ixn hL 9 rfl [7, 0, 1, 2, 3, 4, 5, 6, 8] (by decide) rfl
  obtain ⟨A, L1, L2, K, hR, hL⟩ := mst_o hL
  obtain ⟨r1, r2, q1, q2, hK, hK8⟩ := hR
  have hJ : mJ L1 L2 (v, RQ, RS, SC, er, B) (h1, h2, N1, N2) := ⟨r1, r2, q1, q2⟩
  have hh1 : h1 < 16 := r1.2.1
  have hn1 : RQ.length ≤ 16 := r1.2.2.1
  have hh2 : h2 < 32 := r2.2.1
  have hn2 : RS.length ≤ 32 := r2.2.2.1
  have hl1 := r1.1
  have hl2 := r2.1
  have hkl : SC.length = K.length := k_len hK
  have hL : stars [pt (F 7) (.inr (3, [.ref (A 0), .int (nI (v 1)), .int (nI (v 2)), .int (nI (v 3)), .int (nI (v 4)), .int (nI (v 5)), .ref (A 6), .int (nI h1), .int (nI RQ.length), .int (nI (v 9)), .ref (A 10), .int (nI h2), .int (nI RS.length), .int (nI (v 13)), .int (nI (v 14)), .ref (A 15), .int (nI K.length)])), stn (A 0) er (v 20) (B 1) (B 2), pt (A 6) (.inl (4, 16, .inr (.inr (.inr (.inr (adJ L1)))))), pt (A 10) (.inl (4, 32, .inr (.inr (.inr (.inr (adJ L2)))))), pt (A 15) (.inl (5, 8, .inr (.inr (.inr (.inr (adS K)))))), lst slt L1, lst slt L2, lst sce K, pt o (.inr (9, [.ref (F 0), .ref (F 1), .ref (F 2), .ref (F 3), .ref (F 4), .int (nI DL.length), .ref (F 6), .ref (F 7), .int (nI ck)])), row (F 0) 400 tp, row (F 1) 253 an, row (F 2) 253 hr, row (F 3) 253 cm, pt (F 4) (.inl (2, 6, .inr (.inr (.inr (.inr (adD DL)))))), wire (F 6) fr wv hs, lst dve DL] h := hL
  rcases Nat.eq_zero_or_pos RS.length with h0 | h0
  · refine p_callV 7 hL [0, 3, 1, 2, 4, 5, 6, 7, 8, 9, 10, 11, 12, 13, 14, 15] 16 rfl (by decide) (L1 := [pt (F 7) (.inr (3, [.ref (A 0), .int (nI (v 1)), .int (nI (v 2)), .int (nI (v 3)), .int (nI (v 4)), .int (nI (v 5)), .ref (A 6), .int (nI h1), .int (nI RQ.length), .int (nI (v 9)), .ref (A 10), .int (nI h2), .int (nI RS.length), .int (nI (v 13)), .int (nI (v 14)), .ref (A 15), .int (nI K.length)])), pt (A 10) (.inl (4, 32, .inr (.inr (.inr (.inr (adJ L2))))))]) (L2 := [stn (A 0) er (v 20) (B 1) (B 2), pt (A 6) (.inl (4, 16, .inr (.inr (.inr (.inr (adJ L1)))))), pt (A 15) (.inl (5, 8, .inr (.inr (.inr (.inr (adS K)))))), lst slt L1, lst slt L2, lst sce K, pt o (.inr (9, [.ref (F 0), .ref (F 1), .ref (F 2), .ref (F 3), .ref (F 4), .int (nI DL.length), .ref (F 6), .ref (F 7), .int (nI ck)])), row (F 0) 400 tp, row (F 1) 253 an, row (F 2) 253 hr, row (F 3) 253 cm, pt (F 4) (.inl (2, 6, .inr (.inr (.inr (.inr (adD DL)))))), wire (F 6) fr wv hs, lst dve DL]) rfl isO_pt 0 rfl dX11_data_4 rfl cv_X11_316 (k_X3_firstResult0 h0) rfl rfl (Nat.le_of_ble_eq_true rfl) ⟨by decide, by omega, by omega⟩ (fun r1 L1 h q hL => ?_)
    obtain ⟨rfl, rfl⟩ := q
    have hL : stars [pt (F 7) (.inr (3, [.ref (A 0), .int (nI (v 1)), .int (nI (v 2)), .int (nI (v 3)), .int (nI (v 4)), .int (nI (v 5)), .ref (A 6), .int (nI h1), .int (nI RQ.length), .int (nI (v 9)), .ref (A 10), .int (nI h2), .int (nI RS.length), .int (nI (v 13)), .int (nI (v 14)), .ref (A 15), .int (nI K.length)])), pt (A 10) (.inl (4, 32, .inr (.inr (.inr (.inr (adJ L2)))))), stn (A 0) er (v 20) (B 1) (B 2), pt (A 6) (.inl (4, 16, .inr (.inr (.inr (.inr (adJ L1)))))), pt (A 15) (.inl (5, 8, .inr (.inr (.inr (.inr (adS K)))))), lst slt L1, lst slt L2, lst sce K, pt o (.inr (9, [.ref (F 0), .ref (F 1), .ref (F 2), .ref (F 3), .ref (F 4), .int (nI DL.length), .ref (F 6), .ref (F 7), .int (nI ck)])), row (F 0) 400 tp, row (F 1) 253 an, row (F 2) 253 hr, row (F 3) 253 cm, pt (F 4) (.inl (2, 6, .inr (.inr (.inr (.inr (adD DL)))))), wire (F 6) fr wv hs, lst dve DL] h := hL
    have hL : stars [pt (F 7) (.inr (3, [.ref (A 0), .int (nI (v 1)), .int (nI (v 2)), .int (nI (v 3)), .int (nI (v 4)), .int (nI (v 5)), .ref (A 6), .int (nI h1), .int (nI RQ.length), .int (nI (v 9)), .ref (A 10), .int (nI h2), .int (nI RS.length), .int (nI (v 13)), .int (nI (v 14)), .ref (A 15), .int (nI K.length)])), stn (A 0) er (v 20) (B 1) (B 2), pt (A 6) (.inl (4, 16, .inr (.inr (.inr (.inr (adJ L1)))))), pt (A 10) (.inl (4, 32, .inr (.inr (.inr (.inr (adJ L2)))))), pt (A 15) (.inl (5, 8, .inr (.inr (.inr (.inr (adS K)))))), lst slt L1, lst slt L2, lst sce K, pt o (.inr (9, [.ref (F 0), .ref (F 1), .ref (F 2), .ref (F 3), .ref (F 4), .int (nI DL.length), .ref (F 6), .ref (F 7), .int (nI ck)])), row (F 0) 400 tp, row (F 1) 253 an, row (F 2) 253 hr, row (F 3) 253 cm, pt (F 4) (.inl (2, 6, .inr (.inr (.inr (.inr (adD DL)))))), wire (F 6) fr wv hs, lst dve DL] h := stars_ixn hL 16 rfl [0, 2, 3, 1, 4, 5, 6, 7, 8, 9, 10, 11, 12, 13, 14, 15] (by decide) rfl
    refine e_astore_nN 8 (ls' := [some (.ref o), some (.int (nI k)), some .null]) dX11_data_7 rfl (by decide) rfl ?_
    refine e_aload_nN 9 dX11_data_8 rfl rfl ?_
    refine e_ifnullN 27 dX11_data_9 rfl ?_
    exfalso; omega
  · obtain ⟨j, hj, hj2⟩ := ring_hd2 r2 h0
    refine p_callV 7 hL [0, 3, 1, 2, 4, 5, 6, 7, 8, 9, 10, 11, 12, 13, 14, 15] 16 rfl (by decide) (L1 := [pt (F 7) (.inr (3, [.ref (A 0), .int (nI (v 1)), .int (nI (v 2)), .int (nI (v 3)), .int (nI (v 4)), .int (nI (v 5)), .ref (A 6), .int (nI h1), .int (nI RQ.length), .int (nI (v 9)), .ref (A 10), .int (nI h2), .int (nI RS.length), .int (nI (v 13)), .int (nI (v 14)), .ref (A 15), .int (nI K.length)])), pt (A 10) (.inl (4, 32, .inr (.inr (.inr (.inr (adJ L2))))))]) (L2 := [stn (A 0) er (v 20) (B 1) (B 2), pt (A 6) (.inl (4, 16, .inr (.inr (.inr (.inr (adJ L1)))))), pt (A 15) (.inl (5, 8, .inr (.inr (.inr (.inr (adS K)))))), lst slt L1, lst slt L2, lst sce K, pt o (.inr (9, [.ref (F 0), .ref (F 1), .ref (F 2), .ref (F 3), .ref (F 4), .int (nI DL.length), .ref (F 6), .ref (F 7), .int (nI ck)])), row (F 0) 400 tp, row (F 1) 253 an, row (F 2) 253 hr, row (F 3) 253 cm, pt (F 4) (.inl (2, 6, .inr (.inr (.inr (.inr (adD DL)))))), wire (F 6) fr wv hs, lst dve DL]) rfl isO_pt 0 rfl dX11_data_4 rfl cv_X11_316 (k_X3_firstResult1 (g := adJ L2) h0 (by omega) (by omega) (adJ_at hj)) rfl rfl (Nat.le_of_ble_eq_true rfl) ⟨by decide, by omega, by omega⟩ (fun r1 L1 h q hL => ?_)
    obtain ⟨rfl, rfl⟩ := q
    have hL : stars [pt (F 7) (.inr (3, [.ref (A 0), .int (nI (v 1)), .int (nI (v 2)), .int (nI (v 3)), .int (nI (v 4)), .int (nI (v 5)), .ref (A 6), .int (nI h1), .int (nI RQ.length), .int (nI (v 9)), .ref (A 10), .int (nI h2), .int (nI RS.length), .int (nI (v 13)), .int (nI (v 14)), .ref (A 15), .int (nI K.length)])), pt (A 10) (.inl (4, 32, .inr (.inr (.inr (.inr (adJ L2)))))), stn (A 0) er (v 20) (B 1) (B 2), pt (A 6) (.inl (4, 16, .inr (.inr (.inr (.inr (adJ L1)))))), pt (A 15) (.inl (5, 8, .inr (.inr (.inr (.inr (adS K)))))), lst slt L1, lst slt L2, lst sce K, pt o (.inr (9, [.ref (F 0), .ref (F 1), .ref (F 2), .ref (F 3), .ref (F 4), .int (nI DL.length), .ref (F 6), .ref (F 7), .int (nI ck)])), row (F 0) 400 tp, row (F 1) 253 an, row (F 2) 253 hr, row (F 3) 253 cm, pt (F 4) (.inl (2, 6, .inr (.inr (.inr (.inr (adD DL)))))), wire (F 6) fr wv hs, lst dve DL] h := hL
    have hL : stars [pt (F 7) (.inr (3, [.ref (A 0), .int (nI (v 1)), .int (nI (v 2)), .int (nI (v 3)), .int (nI (v 4)), .int (nI (v 5)), .ref (A 6), .int (nI h1), .int (nI RQ.length), .int (nI (v 9)), .ref (A 10), .int (nI h2), .int (nI RS.length), .int (nI (v 13)), .int (nI (v 14)), .ref (A 15), .int (nI K.length)])), stn (A 0) er (v 20) (B 1) (B 2), pt (A 6) (.inl (4, 16, .inr (.inr (.inr (.inr (adJ L1)))))), pt (A 10) (.inl (4, 32, .inr (.inr (.inr (.inr (adJ L2)))))), pt (A 15) (.inl (5, 8, .inr (.inr (.inr (.inr (adS K)))))), lst slt L1, lst slt L2, lst sce K, pt o (.inr (9, [.ref (F 0), .ref (F 1), .ref (F 2), .ref (F 3), .ref (F 4), .int (nI DL.length), .ref (F 6), .ref (F 7), .int (nI ck)])), row (F 0) 400 tp, row (F 1) 253 an, row (F 2) 253 hr, row (F 3) 253 cm, pt (F 4) (.inl (2, 6, .inr (.inr (.inr (.inr (adD DL)))))), wire (F 6) fr wv hs, lst dve DL] h := stars_ixn hL 16 rfl [0, 2, 3, 1, 4, 5, 6, 7, 8, 9, 10, 11, 12, 13, 14, 15] (by decide) rfl
    refine e_astore_n 8 (ls' := [some (.ref o), some (.int (nI k)), some (.ref j.1)]) dX11_data_7 rfl (by decide) rfl ?_
    refine e_aload_n 9 dX11_data_8 rfl rfl ?_
    refine e_ifnull 12 dX11_data_9 rfl ?_
    have hL : stars [lst slt L2, pt (F 7) (.inr (3, [.ref (A 0), .int (nI (v 1)), .int (nI (v 2)), .int (nI (v 3)), .int (nI (v 4)), .int (nI (v 5)), .ref (A 6), .int (nI h1), .int (nI RQ.length), .int (nI (v 9)), .ref (A 10), .int (nI h2), .int (nI RS.length), .int (nI (v 13)), .int (nI (v 14)), .ref (A 15), .int (nI K.length)])), stn (A 0) er (v 20) (B 1) (B 2), pt (A 6) (.inl (4, 16, .inr (.inr (.inr (.inr (adJ L1)))))), pt (A 10) (.inl (4, 32, .inr (.inr (.inr (.inr (adJ L2)))))), pt (A 15) (.inl (5, 8, .inr (.inr (.inr (.inr (adS K)))))), lst slt L1, lst sce K, pt o (.inr (9, [.ref (F 0), .ref (F 1), .ref (F 2), .ref (F 3), .ref (F 4), .int (nI DL.length), .ref (F 6), .ref (F 7), .int (nI ck)])), row (F 0) 400 tp, row (F 1) 253 an, row (F 2) 253 hr, row (F 3) 253 cm, pt (F 4) (.inl (2, 6, .inr (.inr (.inr (.inr (adD DL)))))), wire (F 6) fr wv hs, lst dve DL] h := stars_ixn hL 16 rfl [6, 0, 1, 2, 3, 4, 5, 7, 8, 9, 10, 11, 12, 13, 14, 15] (by decide) rfl
    obtain ⟨jr, hL⟩ := job_o (job_at hj hL)
    have hL : stars [pt j.1 (.inr (2, [.ref jr, .int (nI (j.2.2 1)), .int (nI (j.2.2 2)), .int (nI (j.2.2 3)), .int (nI (j.2.2 4)), .int (nI (j.2.2 5))])), row jr 253 j.2.1, lst slt (L2.eraseIdx h2), pt (F 7) (.inr (3, [.ref (A 0), .int (nI (v 1)), .int (nI (v 2)), .int (nI (v 3)), .int (nI (v 4)), .int (nI (v 5)), .ref (A 6), .int (nI h1), .int (nI RQ.length), .int (nI (v 9)), .ref (A 10), .int (nI h2), .int (nI RS.length), .int (nI (v 13)), .int (nI (v 14)), .ref (A 15), .int (nI K.length)])), stn (A 0) er (v 20) (B 1) (B 2), pt (A 6) (.inl (4, 16, .inr (.inr (.inr (.inr (adJ L1)))))), pt (A 10) (.inl (4, 32, .inr (.inr (.inr (.inr (adJ L2)))))), pt (A 15) (.inl (5, 8, .inr (.inr (.inr (.inr (adS K)))))), lst slt L1, lst sce K, pt o (.inr (9, [.ref (F 0), .ref (F 1), .ref (F 2), .ref (F 3), .ref (F 4), .int (nI DL.length), .ref (F 6), .ref (F 7), .int (nI ck)])), row (F 0) 400 tp, row (F 1) 253 an, row (F 2) 253 hr, row (F 3) 253 cm, pt (F 4) (.inl (2, 6, .inr (.inr (.inr (.inr (adD DL)))))), wire (F 6) fr wv hs, lst dve DL] h := hL
    have hhd : hdS (tp, an, D, (fr, wv, hs), (v, RQ, RS, SC, er, B), ck) = rd j := hj2 _
    have hkl9 : k < j.2.1.length := by have h9 := hk; rw [hhd] at h9; exact h9
    have hjl := row_len _ 1 hL rfl
    refine e_iload_n 13 dX11_data_12 rfl rfl ?_
    refine e_if_lt 27 16 dX11_data_13 rfl rfl (fun c13 => absurd c13 (nI_pos (by omega))) (fun c13 => ?_)
    refine e_iload_n 17 dX11_data_16 rfl rfl ?_
    refine e_aload_n 18 dX11_data_17 rfl rfl ?_
    refine e_get 21 dX11_data_18 rfl fl_X11_256_2 (stars_at _ 0 hL rfl) rfl ?_
    obtain ⟨z21, y21⟩ := row_at _ 1 hL rfl
    refine e_get 24 dX11_data_21 rfl fl_X11_54_4 y21 rfl ?_
    refine e_icmp_lt 38 27 dX11_data_24 rfl rfl (fun c24 => ?_) (fun c24 => absurd c24 (nI_nlt2 (by omega) (by omega) (by omega)))
    refine e_aload_n 39 dX11_data_38 rfl rfl ?_
    refine e_get 42 dX11_data_39 rfl fl_X11_256_2 (stars_at _ 0 hL rfl) rfl ?_
    refine e_iload_n 43 dX11_data_42 rfl rfl ?_
    refine p_callV 46 hL [1, 0, 2, 3, 4, 5, 6, 7, 8, 9, 10, 11, 12, 13, 14, 15, 16, 17] 18 rfl (by decide) (L1 := [row jr 253 j.2.1]) (L2 := [pt j.1 (.inr (2, [.ref jr, .int (nI (j.2.2 1)), .int (nI (j.2.2 2)), .int (nI (j.2.2 3)), .int (nI (j.2.2 4)), .int (nI (j.2.2 5))])), lst slt (L2.eraseIdx h2), pt (F 7) (.inr (3, [.ref (A 0), .int (nI (v 1)), .int (nI (v 2)), .int (nI (v 3)), .int (nI (v 4)), .int (nI (v 5)), .ref (A 6), .int (nI h1), .int (nI RQ.length), .int (nI (v 9)), .ref (A 10), .int (nI h2), .int (nI RS.length), .int (nI (v 13)), .int (nI (v 14)), .ref (A 15), .int (nI K.length)])), stn (A 0) er (v 20) (B 1) (B 2), pt (A 6) (.inl (4, 16, .inr (.inr (.inr (.inr (adJ L1)))))), pt (A 10) (.inl (4, 32, .inr (.inr (.inr (.inr (adJ L2)))))), pt (A 15) (.inl (5, 8, .inr (.inr (.inr (.inr (adS K)))))), lst slt L1, lst sce K, pt o (.inr (9, [.ref (F 0), .ref (F 1), .ref (F 2), .ref (F 3), .ref (F 4), .int (nI DL.length), .ref (F 6), .ref (F 7), .int (nI ck)])), row (F 0) 400 tp, row (F 1) 253 an, row (F 2) 253 hr, row (F 3) 253 cm, pt (F 4) (.inl (2, 6, .inr (.inr (.inr (.inr (adD DL)))))), wire (F 6) fr wv hs, lst dve DL]) rfl row_O 1 rfl dX11_data_43 rfl cv_X11_134 (k_X4_at (by omega)) rfl rfl (Nat.le_of_ble_eq_true rfl) ⟨by decide, by omega, by omega⟩ (fun r1 L1 h q hL => ?_)
    obtain ⟨rfl, rfl⟩ := q
    have hL : stars [row jr 253 j.2.1, pt j.1 (.inr (2, [.ref jr, .int (nI (j.2.2 1)), .int (nI (j.2.2 2)), .int (nI (j.2.2 3)), .int (nI (j.2.2 4)), .int (nI (j.2.2 5))])), lst slt (L2.eraseIdx h2), pt (F 7) (.inr (3, [.ref (A 0), .int (nI (v 1)), .int (nI (v 2)), .int (nI (v 3)), .int (nI (v 4)), .int (nI (v 5)), .ref (A 6), .int (nI h1), .int (nI RQ.length), .int (nI (v 9)), .ref (A 10), .int (nI h2), .int (nI RS.length), .int (nI (v 13)), .int (nI (v 14)), .ref (A 15), .int (nI K.length)])), stn (A 0) er (v 20) (B 1) (B 2), pt (A 6) (.inl (4, 16, .inr (.inr (.inr (.inr (adJ L1)))))), pt (A 10) (.inl (4, 32, .inr (.inr (.inr (.inr (adJ L2)))))), pt (A 15) (.inl (5, 8, .inr (.inr (.inr (.inr (adS K)))))), lst slt L1, lst sce K, pt o (.inr (9, [.ref (F 0), .ref (F 1), .ref (F 2), .ref (F 3), .ref (F 4), .int (nI DL.length), .ref (F 6), .ref (F 7), .int (nI ck)])), row (F 0) 400 tp, row (F 1) 253 an, row (F 2) 253 hr, row (F 3) 253 cm, pt (F 4) (.inl (2, 6, .inr (.inr (.inr (.inr (adD DL)))))), wire (F 6) fr wv hs, lst dve DL] h := hL
    have hL : stars [pt j.1 (.inr (2, [.ref jr, .int (nI (j.2.2 1)), .int (nI (j.2.2 2)), .int (nI (j.2.2 3)), .int (nI (j.2.2 4)), .int (nI (j.2.2 5))])), row jr 253 j.2.1, lst slt (L2.eraseIdx h2), pt (F 7) (.inr (3, [.ref (A 0), .int (nI (v 1)), .int (nI (v 2)), .int (nI (v 3)), .int (nI (v 4)), .int (nI (v 5)), .ref (A 6), .int (nI h1), .int (nI RQ.length), .int (nI (v 9)), .ref (A 10), .int (nI h2), .int (nI RS.length), .int (nI (v 13)), .int (nI (v 14)), .ref (A 15), .int (nI K.length)])), stn (A 0) er (v 20) (B 1) (B 2), pt (A 6) (.inl (4, 16, .inr (.inr (.inr (.inr (adJ L1)))))), pt (A 10) (.inl (4, 32, .inr (.inr (.inr (.inr (adJ L2)))))), pt (A 15) (.inl (5, 8, .inr (.inr (.inr (.inr (adS K)))))), lst slt L1, lst sce K, pt o (.inr (9, [.ref (F 0), .ref (F 1), .ref (F 2), .ref (F 3), .ref (F 4), .int (nI DL.length), .ref (F 6), .ref (F 7), .int (nI ck)])), row (F 0) 400 tp, row (F 1) 253 an, row (F 2) 253 hr, row (F 3) 253 cm, pt (F 4) (.inl (2, 6, .inr (.inr (.inr (.inr (adD DL)))))), wire (F 6) fr wv hs, lst dve DL] h := stars_ixn hL 18 rfl [1, 0, 2, 3, 4, 5, 6, 7, 8, 9, 10, 11, 12, 13, 14, 15, 16, 17] (by decide) rfl
    have hL := lst_b (f := slt) h2 hj (job_c j.2.2 hL)
    have hL : stars [lst slt L2, pt (F 7) (.inr (3, [.ref (A 0), .int (nI (v 1)), .int (nI (v 2)), .int (nI (v 3)), .int (nI (v 4)), .int (nI (v 5)), .ref (A 6), .int (nI h1), .int (nI RQ.length), .int (nI (v 9)), .ref (A 10), .int (nI h2), .int (nI RS.length), .int (nI (v 13)), .int (nI (v 14)), .ref (A 15), .int (nI K.length)])), stn (A 0) er (v 20) (B 1) (B 2), pt (A 6) (.inl (4, 16, .inr (.inr (.inr (.inr (adJ L1)))))), pt (A 10) (.inl (4, 32, .inr (.inr (.inr (.inr (adJ L2)))))), pt (A 15) (.inl (5, 8, .inr (.inr (.inr (.inr (adS K)))))), lst slt L1, lst sce K, pt o (.inr (9, [.ref (F 0), .ref (F 1), .ref (F 2), .ref (F 3), .ref (F 4), .int (nI DL.length), .ref (F 6), .ref (F 7), .int (nI ck)])), row (F 0) 400 tp, row (F 1) 253 an, row (F 2) 253 hr, row (F 3) 253 cm, pt (F 4) (.inl (2, 6, .inr (.inr (.inr (.inr (adD DL)))))), wire (F 6) fr wv hs, lst dve DL] h := hL
    have hL : stars [pt (F 7) (.inr (3, [.ref (A 0), .int (nI (v 1)), .int (nI (v 2)), .int (nI (v 3)), .int (nI (v 4)), .int (nI (v 5)), .ref (A 6), .int (nI h1), .int (nI RQ.length), .int (nI (v 9)), .ref (A 10), .int (nI h2), .int (nI RS.length), .int (nI (v 13)), .int (nI (v 14)), .ref (A 15), .int (nI K.length)])), pt (A 6) (.inl (4, 16, .inr (.inr (.inr (.inr (adJ L1)))))), pt (A 10) (.inl (4, 32, .inr (.inr (.inr (.inr (adJ L2)))))), lst slt L1, lst slt L2, stn (A 0) er (v 20) (B 1) (B 2), pt (A 15) (.inl (5, 8, .inr (.inr (.inr (.inr (adS K)))))), lst sce K, pt o (.inr (9, [.ref (F 0), .ref (F 1), .ref (F 2), .ref (F 3), .ref (F 4), .int (nI DL.length), .ref (F 6), .ref (F 7), .int (nI ck)])), row (F 0) 400 tp, row (F 1) 253 an, row (F 2) 253 hr, row (F 3) 253 cm, pt (F 4) (.inl (2, 6, .inr (.inr (.inr (.inr (adD DL)))))), wire (F 6) fr wv hs, lst dve DL] h := stars_ixn hL 16 rfl [1, 3, 4, 6, 0, 2, 5, 7, 8, 9, 10, 11, 12, 13, 14, 15] (by decide) rfl
    have hL := mst_cj (s := (v, RQ, RS, SC, er, B)) (z := (h1, h2, N1, N2)) (q := v 20) (er := er) (B := B) hJ hK hK8 rfl rfl hL
    have hL : stars [mst (F 7) (v, RQ, RS, SC, er, B) (h1, h2, N1, N2), pt o (.inr (9, [.ref (F 0), .ref (F 1), .ref (F 2), .ref (F 3), .ref (F 4), .int (nI DL.length), .ref (F 6), .ref (F 7), .int (nI ck)])), row (F 0) 400 tp, row (F 1) 253 an, row (F 2) 253 hr, row (F 3) 253 cm, pt (F 4) (.inl (2, 6, .inr (.inr (.inr (.inr (adD DL)))))), wire (F 6) fr wv hs, lst dve DL] h := hL
    exact e_iret dX11_data_46 rfl (by omega) (by omega) (⟨_, ⟨by rw [hhd]; rfl, rfl⟩, flo_c (g := (tp, an, D, (fr, wv, hs), (v, RQ, RS, SC, er, B), ck)) (X := []) hD hl6 (stars_ixn hL 9 rfl [1, 2, 3, 4, 5, 6, 7, 0, 8] (by decide) rfl)⟩)
