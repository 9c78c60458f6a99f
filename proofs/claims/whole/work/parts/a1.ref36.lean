/-! the reference: begins -/
set_option maxRecDepth 20000 in
set_option maxHeartbeats 2000000 in
theorem k_X15_begins1 {m ad nu at9 fc : Nat} {F w : Nat → Nat} {bg : Bool} {T : List EN} {q fr0 : List Nat} (hT : T.length < 16) (hq : ∀ x ∈ q, x < 256) (hql : q.length ≤ 253) (had : ad < 256) : CA mX15_begins [.ref m] [pt m (.inr (13, moF F (upN (upN w 7 0) 23 fc) bg)), rrw (F 12) 16 3 ((q, [ad, nu, at9]) :: T), iar (F 21) 260 fr0] (fun x9 K => x9 = none ∧ K = [rmo m F (upN (upN (upN (upN (upN (upN (upN (upN w 7 0) 23 fc) 7 1) 23 fc) 20 1) 22 (q.length + 3)) 24 0) 23 (fc + 1)) false, rrw (F 12) 16 3 ((q, [ad, nu, at9 + 1]) :: T), iar (F 21) 260 (mkF ad q)]) 2 60 0 0 := by
  refine CA.mk 2 (ls := [some (.ref m), none, none]) rfl rfl (Nat.le_of_ble_eq_true rfl) rfl (fun h hL => ?_)
  have hlen : ((q, [ad, nu, at9]) :: T : List EN).length < 2 ^ 31 := by (rw [List.length_cons]; omega)
  refine e_aload_n 1 dX15_begins_0 rfl rfl ?_
  refine e_get 4 (v := (.int (nI 0))) dX15_begins_1 rfl fl_X15_306_13 (stars_at _ 0 hL rfl) rfl ?_
  refine e_if_ne 72 7 dX15_begins_4 rfl rfl (fun c4 => absurd c4 (by decide)) (fun c4 => ?_)
  refine e_aload_n 8 dX15_begins_7 rfl rfl ?_
  refine e_get 11 (v := (.ref (F 12))) dX15_begins_8 rfl fl_X15_44_13 (stars_at _ 0 hL rfl) rfl ?_
  obtain ⟨A11, u11_0, u11_1, u11_2, u11_3, u11_4⟩ := rrw_V _ 1 hL rfl
  refine e_get 14 (v := (.int (nI ((q, [ad, nu, at9]) :: T).length))) dX15_begins_11 rfl fl_X15_298_11 u11_0 rfl ?_
  refine e_if_le 72 17 dX15_begins_14 rfl rfl (fun c14 => absurd c14 (fun z => absurd (j_le0_t hlen z) (by simp))) (fun c14 => ?_)
  have hL : stars [rrw (F 12) 16 3 ((q, [ad, nu, at9]) :: T), pt m (.inr (13, moF F (upN (upN w 7 0) 23 fc) bg)), iar (F 21) 260 fr0] h := stars_ixn hL 3 rfl [1, 0, 2] (by decide) rfl
  obtain ⟨A, hnA, hL⟩ := rrw_o hL
  have hL : stars [pt (F 12) (.inr (11, [.ref (A 0), .ref (A 1), .ref (A 2), .int (nI ((q, [ad, nu, at9]) :: T).length)])), grd (A 0) 16 256 (rE1 ((q, [ad, nu, at9]) :: T)), iar (A 1) 16 (rZ ((q, [ad, nu, at9]) :: T)), grd (A 2) 16 3 (rE2 ((q, [ad, nu, at9]) :: T)), pt m (.inr (13, moF F (upN (upN w 7 0) 23 fc) bg)), iar (F 21) 260 fr0] h := hL
  have hL : stars [grd (A 2) 16 3 (rE2 ((q, [ad, nu, at9]) :: T)), pt (F 12) (.inr (11, [.ref (A 0), .ref (A 1), .ref (A 2), .int (nI ((q, [ad, nu, at9]) :: T).length)])), grd (A 0) 16 256 (rE1 ((q, [ad, nu, at9]) :: T)), iar (A 1) 16 (rZ ((q, [ad, nu, at9]) :: T)), pt m (.inr (13, moF F (upN (upN w 7 0) 23 fc) bg)), iar (F 21) 260 fr0] h := stars_ixn hL 6 rfl [3, 0, 1, 2, 4, 5] (by decide) rfl
  obtain ⟨b0, R0, hL, hR0, hC0⟩ := grd_at (i := 0) (by omega) hL
  have hL : stars [iar b0 3 ((rE2 ((q, [ad, nu, at9]) :: T)) 0), R0, pt (F 12) (.inr (11, [.ref (A 0), .ref (A 1), .ref (A 2), .int (nI ((q, [ad, nu, at9]) :: T).length)])), grd (A 0) 16 256 (rE1 ((q, [ad, nu, at9]) :: T)), iar (A 1) 16 (rZ ((q, [ad, nu, at9]) :: T)), pt m (.inr (13, moF F (upN (upN w 7 0) 23 fc) bg)), iar (F 21) 260 fr0] h := hL
  have hL : stars [iar b0 3 ([ad, nu, at9]), R0, pt (F 12) (.inr (11, [.ref (A 0), .ref (A 1), .ref (A 2), .int (nI ((q, [ad, nu, at9]) :: T).length)])), grd (A 0) 16 256 (rE1 ((q, [ad, nu, at9]) :: T)), iar (A 1) 16 (rZ ((q, [ad, nu, at9]) :: T)), pt m (.inr (13, moF F (upN (upN w 7 0) 23 fc) bg)), iar (F 21) 260 fr0] h := hL
  have hL : stars [grd (A 0) 16 256 (rE1 ((q, [ad, nu, at9]) :: T)), iar b0 3 ([ad, nu, at9]), R0, pt (F 12) (.inr (11, [.ref (A 0), .ref (A 1), .ref (A 2), .int (nI ((q, [ad, nu, at9]) :: T).length)])), iar (A 1) 16 (rZ ((q, [ad, nu, at9]) :: T)), pt m (.inr (13, moF F (upN (upN w 7 0) 23 fc) bg)), iar (F 21) 260 fr0] h := stars_ixn hL 7 rfl [3, 0, 1, 2, 4, 5, 6] (by decide) rfl
  obtain ⟨b1, R1, hL, hR1, hC1⟩ := grd_at (i := 0) (by omega) hL
  have hL : stars [iar b1 256 ((rE1 ((q, [ad, nu, at9]) :: T)) 0), R1, iar b0 3 ([ad, nu, at9]), R0, pt (F 12) (.inr (11, [.ref (A 0), .ref (A 1), .ref (A 2), .int (nI ((q, [ad, nu, at9]) :: T).length)])), iar (A 1) 16 (rZ ((q, [ad, nu, at9]) :: T)), pt m (.inr (13, moF F (upN (upN w 7 0) 23 fc) bg)), iar (F 21) 260 fr0] h := hL
  have hL : stars [iar b1 256 q, R1, iar b0 3 ([ad, nu, at9]), R0, pt (F 12) (.inr (11, [.ref (A 0), .ref (A 1), .ref (A 2), .int (nI ((q, [ad, nu, at9]) :: T).length)])), iar (A 1) 16 (rZ ((q, [ad, nu, at9]) :: T)), pt m (.inr (13, moF F (upN (upN w 7 0) 23 fc) bg)), iar (F 21) 260 fr0] h := hL
  refine e_aload_n 18 dX15_begins_17 rfl rfl ?_
  refine e_get 21 (v := (.ref (F 12))) dX15_begins_18 rfl fl_X15_44_13 (stars_at _ 6 hL rfl) rfl ?_
  refine e_get 24 dX15_begins_21 rfl fl_X15_292_11 (stars_at _ 4 hL rfl) rfl ?_
  refine e_iconst 25 (v := (nI 0)) dX15_begins_24 rfl (by decide) ?_
  refine v_aaldP 26 (grP_V _ 3 hL rfl hR0) dX15_begins_25 rfl (by omega) (by omega) ?_
  refine e_iconst 27 (v := (nI 2)) dX15_begins_26 rfl (by decide) ?_
  refine e_dup2 28 dX15_begins_27 rfl rfl rfl ?_
  refine v_iald 29 (r := [ad, nu, at9]) (iar_V _ 2 hL rfl) (k := 2) (x := at9) dX15_begins_28 rfl (Nat.le_of_ble_eq_true rfl) (by omega) rfl ?_
  refine e_iconst 30 (v := (nI 1)) dX15_begins_29 rfl (by decide) ?_
  refine e_iadd 31 (v := (nI (at9 + 1))) dX15_begins_30 rfl (nI_add at9 1) ?_
  refine p_iastR 32 hL 2 (r := [ad, nu, at9]) (r' := [ad, nu, at9 + 1]) (k := 2) (v := (at9 + 1)) (L' := [iar b1 256 q, R1, iar b0 3 ([ad, nu, at9 + 1]), R0, pt (F 12) (.inr (11, [.ref (A 0), .ref (A 1), .ref (A 2), .int (nI ((q, [ad, nu, at9]) :: T).length)])), iar (A 1) 16 (rZ ((q, [ad, nu, at9]) :: T)), pt m (.inr (13, moF F (upN (upN w 7 0) 23 fc) bg)), iar (F 21) 260 fr0]) rfl dX15_begins_31 rfl (by omega) (by omega) (iw_set (r := [ad, nu, at9]) (k := 2) (v := (at9 + 1)) (Nat.le_of_ble_eq_true rfl) (Nat.le_of_ble_eq_true rfl)) rfl (fun h hL => ?_)
  refine e_aload_n 33 dX15_begins_32 rfl rfl ?_
  refine e_iconst 34 (v := (nI 1)) dX15_begins_33 rfl (by decide) ?_
  refine p_put 37 hL 6 (fs' := moF F (upN (upN (upN w 7 0) 23 fc) 7 1) bg) (L' := [iar b1 256 q, R1, iar b0 3 ([ad, nu, at9 + 1]), R0, pt (F 12) (.inr (11, [.ref (A 0), .ref (A 1), .ref (A 2), .int (nI ((q, [ad, nu, at9]) :: T).length)])), iar (A 1) 16 (rZ ((q, [ad, nu, at9]) :: T)), pt m (.inr (13, moF F (upN (upN (upN w 7 0) 23 fc) 7 1) bg)), iar (F 21) 260 fr0]) rfl rfl dX15_begins_34 rfl fp_X15_306_13 (Or.inl rfl) (Nat.le_of_ble_eq_true rfl) rfl rfl rfl (fun h hL => ?_)
  refine e_aload_n 38 dX15_begins_37 rfl rfl ?_
  refine e_iconst 39 (v := (nI 1)) dX15_begins_38 rfl (by decide) ?_
  refine e_aload_n 40 dX15_begins_39 rfl rfl ?_
  refine e_get 43 (v := (.ref (F 12))) dX15_begins_40 rfl fl_X15_44_13 (stars_at _ 6 hL rfl) rfl ?_
  refine e_get 46 dX15_begins_43 rfl fl_X15_292_11 (stars_at _ 4 hL rfl) rfl ?_
  refine e_iconst 47 (v := (nI 0)) dX15_begins_46 rfl (by decide) ?_
  refine v_aaldP 48 (grP_V _ 3 hL rfl hR0) dX15_begins_47 rfl (by omega) (by omega) ?_
  refine e_iconst 49 (v := (nI 0)) dX15_begins_48 rfl (by decide) ?_
  refine v_iald 50 (r := [ad, nu, at9 + 1]) (iar_V _ 2 hL rfl) (k := 0) (x := ad) dX15_begins_49 rfl (Nat.le_of_ble_eq_true rfl) (by omega) rfl ?_
  refine e_aload_n 51 dX15_begins_50 rfl rfl ?_
  refine e_get 54 (v := (.ref (F 12))) dX15_begins_51 rfl fl_X15_44_13 (stars_at _ 6 hL rfl) rfl ?_
  refine e_get 57 dX15_begins_54 rfl fl_X15_321_11 (stars_at _ 4 hL rfl) rfl ?_
  refine e_iconst 58 (v := (nI 0)) dX15_begins_57 rfl (by decide) ?_
  refine v_aaldP 59 (grP_V _ 1 hL rfl hR1) dX15_begins_58 rfl (by omega) (by omega) ?_
  refine e_aload_n 60 dX15_begins_59 rfl rfl ?_
  refine e_get 63 (v := (.ref (F 12))) dX15_begins_60 rfl fl_X15_44_13 (stars_at _ 6 hL rfl) rfl ?_
  refine e_get 66 dX15_begins_63 rfl fl_X15_323_11 (stars_at _ 4 hL rfl) rfl ?_
  refine e_iconst 67 (v := (nI 0)) dX15_begins_66 rfl (by decide) ?_
  refine v_iald 68 (r := (rZ ((q, [ad, nu, at9]) :: T))) (iar_V _ 5 hL rfl) (k := 0) (x := q.length) dX15_begins_67 rfl (Nat.le_of_ble_eq_true rfl) (by omega) rfl ?_
  have hL : stars [iar b1 256 q, R1, iar b0 3 ([ad, nu, at9 + 1]), R0, pt (F 12) (.inr (11, [.ref (A 0), .ref (A 1), .ref (A 2), .int (nI ((q, [ad, nu, at9]) :: T).length)])), iar (A 1) 16 (rZ ((q, [ad, nu, at9]) :: T)), pt m (.inr (13, moF F (upN (upN (upN (upN w 7 0) 23 fc) 7 1) 23 fc) bg)), iar (F 21) 260 fr0] h := hL
  refine p_callV 71 hL [6, 7, 0, 1, 2, 3, 4, 5] 8 rfl (by decide) (L1 := [pt m (.inr (13, moF F (upN (upN (upN (upN w 7 0) 23 fc) 7 1) 23 fc) bg)), iar (F 21) 260 fr0, iar b1 256 q]) (L2 := [R1, iar b0 3 ([ad, nu, at9 + 1]), R0, pt (F 12) (.inr (11, [.ref (A 0), .ref (A 1), .ref (A 2), .int (nI ((q, [ad, nu, at9]) :: T).length)])), iar (A 1) 16 (rZ ((q, [ad, nu, at9]) :: T))]) rfl isO_pt 6 rfl dX15_begins_68 rfl cv_X15_358 (k_X15_sends (w := (upN (upN (upN w 7 0) 23 fc) 7 1)) (who := 1) (ad := ad) (fc := fc) (p := q) hq hql had (by decide)) rfl rfl (Nat.le_of_ble_eq_true rfl) ⟨by decide, by omega, by omega⟩ (fun r1 L1 h q hL => ?_)
  obtain ⟨rfl, rfl⟩ := q
  have hL : stars [rmo m F (upN (upN (upN (upN (upN (upN (upN (upN w 7 0) 23 fc) 7 1) 23 fc) 20 1) 22 (q.length + 3)) 24 0) 23 (fc + 1)) false, iar (F 21) 260 (mkF ad q), iar b1 256 q, R1, iar b0 3 ([ad, nu, at9 + 1]), R0, pt (F 12) (.inr (11, [.ref (A 0), .ref (A 1), .ref (A 2), .int (nI ((q, [ad, nu, at9]) :: T).length)])), iar (A 1) 16 (rZ ((q, [ad, nu, at9]) :: T))] h := hL
  have hL : stars [iar b1 256 q, R1, iar b0 3 ([ad, nu, at9 + 1]), R0, pt (F 12) (.inr (11, [.ref (A 0), .ref (A 1), .ref (A 2), .int (nI ((q, [ad, nu, at9]) :: T).length)])), iar (A 1) 16 (rZ ((q, [ad, nu, at9]) :: T)), rmo m F (upN (upN (upN (upN (upN (upN (upN (upN w 7 0) 23 fc) 7 1) 23 fc) 20 1) 22 (q.length + 3)) 24 0) 23 (fc + 1)) false, iar (F 21) 260 (mkF ad q)] h := stars_ixn hL 8 rfl [2, 3, 4, 5, 6, 7, 0, 1] (by decide) rfl
  have hL : stars [grd (A 0) 16 256 (upL (rE1 ((q, [ad, nu, at9]) :: T)) 0 (rE1 ((q, [ad, nu, at9]) :: T) 0)), iar b0 3 ([ad, nu, at9 + 1]), R0, pt (F 12) (.inr (11, [.ref (A 0), .ref (A 1), .ref (A 2), .int (nI ((q, [ad, nu, at9]) :: T).length)])), iar (A 1) 16 (rZ ((q, [ad, nu, at9]) :: T)), rmo m F (upN (upN (upN (upN (upN (upN (upN (upN w 7 0) 23 fc) 7 1) 23 fc) 20 1) 22 (q.length + 3)) 24 0) 23 (fc + 1)) false, iar (F 21) 260 (mkF ad q)] h := hC1 _ _ _ hL
  rw [upL_self] at hL
  have hL : stars [grd (A 0) 16 256 (rE1 ((q, [ad, nu, at9]) :: T)), iar b0 3 ([ad, nu, at9 + 1]), R0, pt (F 12) (.inr (11, [.ref (A 0), .ref (A 1), .ref (A 2), .int (nI ((q, [ad, nu, at9]) :: T).length)])), iar (A 1) 16 (rZ ((q, [ad, nu, at9]) :: T)), rmo m F (upN (upN (upN (upN (upN (upN (upN (upN w 7 0) 23 fc) 7 1) 23 fc) 20 1) 22 (q.length + 3)) 24 0) 23 (fc + 1)) false, iar (F 21) 260 (mkF ad q)] h := hL
  have hL : stars [iar b0 3 ([ad, nu, at9 + 1]), R0, grd (A 0) 16 256 (rE1 ((q, [ad, nu, at9]) :: T)), pt (F 12) (.inr (11, [.ref (A 0), .ref (A 1), .ref (A 2), .int (nI ((q, [ad, nu, at9]) :: T).length)])), iar (A 1) 16 (rZ ((q, [ad, nu, at9]) :: T)), rmo m F (upN (upN (upN (upN (upN (upN (upN (upN w 7 0) 23 fc) 7 1) 23 fc) 20 1) 22 (q.length + 3)) 24 0) 23 (fc + 1)) false, iar (F 21) 260 (mkF ad q)] h := stars_ixn hL 7 rfl [1, 2, 0, 3, 4, 5, 6] (by decide) rfl
  have hL : stars [grd (A 2) 16 3 (upL (rE2 ((q, [ad, nu, at9]) :: T)) 0 ([ad, nu, at9 + 1])), grd (A 0) 16 256 (rE1 ((q, [ad, nu, at9]) :: T)), pt (F 12) (.inr (11, [.ref (A 0), .ref (A 1), .ref (A 2), .int (nI ((q, [ad, nu, at9]) :: T).length)])), iar (A 1) 16 (rZ ((q, [ad, nu, at9]) :: T)), rmo m F (upN (upN (upN (upN (upN (upN (upN (upN w 7 0) 23 fc) 7 1) 23 fc) 20 1) 22 (q.length + 3)) 24 0) 23 (fc + 1)) false, iar (F 21) 260 (mkF ad q)] h := hC0 _ _ _ hL
  have hL : stars [pt (F 12) (.inr (11, [.ref (A 0), .ref (A 1), .ref (A 2), .int (nI ((q, [ad, nu, at9]) :: T).length)])), grd (A 0) 16 256 (rE1 ((q, [ad, nu, at9]) :: T)), iar (A 1) 16 (rZ ((q, [ad, nu, at9]) :: T)), grd (A 2) 16 3 (upL (rE2 ((q, [ad, nu, at9]) :: T)) 0 ([ad, nu, at9 + 1])), rmo m F (upN (upN (upN (upN (upN (upN (upN (upN w 7 0) 23 fc) 7 1) 23 fc) 20 1) 22 (q.length + 3)) 24 0) 23 (fc + 1)) false, iar (F 21) 260 (mkF ad q)] h := stars_ixn hL 6 rfl [2, 1, 3, 0, 4, 5] (by decide) rfl
  have hL : stars [rrw (F 12) 16 3 ((q, [ad, nu, at9 + 1]) :: T), rmo m F (upN (upN (upN (upN (upN (upN (upN (upN w 7 0) 23 fc) 7 1) 23 fc) 20 1) 22 (q.length + 3)) 24 0) 23 (fc + 1)) false, iar (F 21) 260 (mkF ad q)] h := rrw_st hnA (Nat.succ_pos _) hL
  exact e_vret dX15_begins_71 rfl (by omega) (by omega) (⟨_, ⟨rfl, rfl⟩, (stars_ixn hL 3 rfl [1, 0, 2] (by decide) rfl)⟩)
set_option maxRecDepth 20000 in
set_option maxHeartbeats 2000000 in
theorem l_beg {m fc : Nat} {F w : Nat → Nat} {bg : Bool} {fr0 : List Nat} {DL : List (Nat × DS)} {X1 : sA} (hl9 : DL.length = 6) (h6 : w 2 ≤ 6) (hok9 : ∀ i s, i < w 2 → (DL.map (·.2))[i]? = some s → okD s ∧ okE s ∧ s.1 20 < 1000000) {Q : Option Value → eH → Prop} (kn : (∀ j t, j < w 2 → (DL.map (·.2))[j]? = some t → rdy t = false) → ∀ h, stars [pt m (.inr (13, moF F (upN w 23 fc) bg)), iar (F 21) 260 fr0, pt (F 1) (.inl (6, 6, .inr (.inr (.inr (.inr (adD DL)))))), lst rdve DL, X1] h → Q none h) (ks : ∀ i d s h, i < w 2 → DL[i]? = some (d, s) → rdy s = true → (∀ j t, j < i → (DL.map (·.2))[j]? = some t → rdy t = false) → stars [rmo m F (upN (upN (upN (upN (upN (upN w 23 fc) 23 fc) 20 (2 + i)) 22 ((dL s 7).length + 3)) 24 0) 23 (fc + 1)) false, iar (F 21) 260 (mkF (s.1 1) (dL s 7)), pt (F 1) (.inl (6, 6, .inr (.inr (.inr (.inr (adD (DL.set i (d, (clR s))))))))), lst rdve (DL.set i (d, (clR s))), X1] h → Q none h) : ∀ (n : Nat) (i : Nat) (h : eH), w 2 - i < n → i ≤ w 2 → (∀ j t, j < i → (DL.map (·.2))[j]? = some t → rdy t = false) → stars [pt m (.inr (13, moF F (upN w 23 fc) bg)), iar (F 21) 260 fr0, pt (F 1) (.inl (6, 6, .inr (.inr (.inr (.inr (adD DL)))))), lst rdve DL, X1] h → EE mX15_begins 2 60 0 0 (Q) 74 [some (.ref m), some (.int (nI i)), none] [] h 0 0 := by
  intro n
  induction n with
  | zero => intro i h hlt hle hn hL; exact absurd hlt (by omega)
  | succ n ih =>
    intro i h hlt hle hn hL
    refine e_iload_n 75 dX15_begins_74 rfl rfl ?_
    refine e_aload_n 76 dX15_begins_75 rfl rfl ?_
    refine e_get 79 (v := (.int (nI (w 2)))) dX15_begins_76 rfl fl_X15_78_13 (stars_at _ 0 hL rfl) rfl ?_
    refine e_icmp_ge 137 82 dX15_begins_79 rfl rfl (fun c79 => ?_) (fun c79 => ?_)
    · have k79 := j_ge_t (a := i) (b := (w 2)) (by omega) (by omega) c79
      exact e_vret dX15_begins_137 rfl (by omega) (by omega) (kn (fun j t hj ht => hn j t (by omega) ht) h hL)
    · have k79 := j_ge_f (a := i) (b := (w 2)) (by omega) (by omega) c79
      obtain ⟨⟨d, s⟩, he⟩ : ∃ e, DL[i]? = some e := ⟨_, List.getElem?_eq_getElem (show i < DL.length by omega)⟩
      have hsD : (DL.map (·.2))[i]? = some s := by rw [List.getElem?_map, he]; rfl
      obtain ⟨hok, hoe, h20⟩ := hok9 i s (by omega) hsD
      have l7 := (okE_ln hoe).2.2.2.1
      have h17 : s.1 17 ≤ 2000 := hok.2.2.2.2.2.2.2.2.2.2.2.2.2.2.2
      have h7b : ∀ x ∈ dL s 7, x < 256 := hok.2.2.2.2.2.2.2.2.2.1
      have h1b : s.1 1 < 248 := hok.2.2.2.2.2.2.2.2.2.2.2.2.2.1
      refine e_aload_n 83 dX15_begins_82 rfl rfl ?_
      refine e_get 86 (v := (.ref (F 1))) dX15_begins_83 rfl fl_X15_9_13 (stars_at _ 0 hL rfl) rfl ?_
      refine e_iload_n 87 dX15_begins_86 rfl rfl ?_
      refine p_aaldD 88 hL 2 (v := d) (k := i) rfl (adD_at he) dX15_begins_87 rfl (by omega) ?_
      refine e_astore_n 89 (ls' := [some (.ref m), some (.int (nI i)), some (.ref d)]) dX15_begins_88 rfl (by decide) rfl ?_
      have hL : stars [lst rdve DL, pt m (.inr (13, moF F (upN w 23 fc) bg)), iar (F 21) 260 fr0, pt (F 1) (.inl (6, 6, .inr (.inr (.inr (.inr (adD DL)))))), X1] h := stars_ixn hL 5 rfl [3, 0, 1, 2, 4] (by decide) rfl
      have hL : stars [rdv d s, lst rdve (DL.eraseIdx i), pt m (.inr (13, moF F (upN w 23 fc) bg)), iar (F 21) 260 fr0, pt (F 1) (.inl (6, 6, .inr (.inr (.inr (.inr (adD DL)))))), X1] h := lst_o i he hL
      refine e_aload_n 90 dX15_begins_89 rfl rfl ?_
      obtain ⟨A90, v90_0, v90_1, v90_2, v90_3, v90_4, v90_5, v90_6, v90_7, v90_8, v90_9, v90_10, v90_11, v90_12, v90_13, v90_14, v90_15, v90_16, v90_17, v90_18, v90_19, v90_20, v90_21⟩ := rdv_V _ 0 hL rfl
      refine e_get 93 (v := (.int (nI (dL s 7).length))) dX15_begins_90 rfl fl_X15_260_10 v90_0 rfl ?_
      refine e_if_eq 131 96 dX15_begins_93 rfl rfl (fun c93 => ?_) (fun c93 => ?_)
      · have k93 := j_eq0_t (a := (dL s 7).length) (by omega) c93
        have hL : stars [lst rdve DL, pt m (.inr (13, moF F (upN w 23 fc) bg)), iar (F 21) 260 fr0, pt (F 1) (.inl (6, 6, .inr (.inr (.inr (.inr (adD DL)))))), X1] h := lst_b (f := rdve) i he hL
        refine e_iinc 134 (v := (nI (i + 1))) (ls' := [some (.ref m), some (.int (nI (i + 1))), some (.ref d)]) dX15_begins_131 rfl rfl (nI_add i 1) (by decide) rfl ?_
        refine e_goto 74 dX15_begins_134 rfl ?_
        have hL : stars [pt m (.inr (13, moF F (upN w 23 fc) bg)), iar (F 21) 260 fr0, pt (F 1) (.inl (6, 6, .inr (.inr (.inr (.inr (adD DL)))))), lst rdve DL, X1] h := stars_ixn hL 5 rfl [1, 2, 3, 0, 4] (by decide) rfl
        refine e_wk [some (.ref m), some (.int (nI (i + 1))), none] ⟨rfl, rfl, trivial⟩ ?_
        exact ih (i + 1) h (by omega) (by omega) (fun j t hj ht => (Nat.lt_succ_iff_lt_or_eq.mp hj).elim (fun z => hn j t z ht) (fun z => by rw [z, hsD] at ht; cases ht; rw [rdy, show decide (0 < (s.2.2.2.2.1 7).length) = false from decide_eq_false (show ¬ 0 < (dL s 7).length by omega), Bool.false_and])) hL
      · have k93 := j_eq0_f (a := (dL s 7).length) (by omega) c93
        refine e_aload_n 97 dX15_begins_96 rfl rfl ?_
        refine e_get 100 (v := (.int (nI (s.1 17)))) dX15_begins_97 rfl fl_X15_266_10 v90_0 rfl ?_
        refine e_if_le 106 103 dX15_begins_100 rfl rfl (fun c100 => ?_) (fun c100 => ?_)
        · have k100 := j_le0_t (a := (s.1 17)) (by omega) c100
          obtain ⟨A, hL⟩ := rdv_oy hL
          have hL : stars [pt d (.inr (10, rdF A s)), iar (A 37) 260 (dL s 7), rRy A s, lst rdve (DL.eraseIdx i), pt m (.inr (13, moF F (upN w 23 fc) bg)), iar (F 21) 260 fr0, pt (F 1) (.inl (6, 6, .inr (.inr (.inr (.inr (adD DL)))))), X1] h := hL
          refine e_aload_n 107 dX15_begins_106 rfl rfl ?_
          refine e_iconst 108 (v := (nI 2)) dX15_begins_107 rfl (by decide) ?_
          refine e_iload_n 109 dX15_begins_108 rfl rfl ?_
          refine e_iadd 110 (v := (nI (2 + i))) dX15_begins_109 rfl (nI_add 2 i) ?_
          refine e_aload_n 111 dX15_begins_110 rfl rfl ?_
          refine e_get 114 dX15_begins_111 rfl fl_X15_248_10 (stars_at _ 0 hL rfl) rfl ?_
          refine e_aload_n 115 dX15_begins_114 rfl rfl ?_
          refine e_get 118 dX15_begins_115 rfl fl_X15_257_10 (stars_at _ 0 hL rfl) rfl ?_
          refine e_aload_n 119 dX15_begins_118 rfl rfl ?_
          refine e_get 122 dX15_begins_119 rfl fl_X15_260_10 (stars_at _ 0 hL rfl) rfl ?_
          have hL : stars [pt d (.inr (10, rdF A s)), iar (A 37) 260 (dL s 7), rRy A s, lst rdve (DL.eraseIdx i), pt m (.inr (13, moF F (upN (upN w 23 fc) 23 fc) bg)), iar (F 21) 260 fr0, pt (F 1) (.inl (6, 6, .inr (.inr (.inr (.inr (adD DL)))))), X1] h := hL
          refine p_callV 125 hL [4, 5, 1, 0, 2, 3, 6, 7] 8 rfl (by decide) (L1 := [pt m (.inr (13, moF F (upN (upN w 23 fc) 23 fc) bg)), iar (F 21) 260 fr0, iar (A 37) 260 (dL s 7)]) (L2 := [pt d (.inr (10, rdF A s)), rRy A s, lst rdve (DL.eraseIdx i), pt (F 1) (.inl (6, 6, .inr (.inr (.inr (.inr (adD DL)))))), X1]) rfl isO_pt 4 rfl dX15_begins_122 rfl cv_X15_358 (k_X15_sends (w := (upN w 23 fc)) (who := (2 + i)) (ad := (s.1 1)) (fc := fc) (p := (dL s 7)) h7b l7 (by omega) (by decide)) rfl rfl (Nat.le_of_ble_eq_true rfl) ⟨by decide, by omega, by omega⟩ (fun r1 L1 h q hL => ?_)
          obtain ⟨rfl, rfl⟩ := q
          have hL : stars [rmo m F (upN (upN (upN (upN (upN (upN w 23 fc) 23 fc) 20 (2 + i)) 22 ((dL s 7).length + 3)) 24 0) 23 (fc + 1)) false, iar (F 21) 260 (mkF (s.1 1) (dL s 7)), iar (A 37) 260 (dL s 7), pt d (.inr (10, rdF A s)), rRy A s, lst rdve (DL.eraseIdx i), pt (F 1) (.inl (6, 6, .inr (.inr (.inr (.inr (adD DL)))))), X1] h := hL
          have hL : stars [pt d (.inr (10, rdF A s)), iar (A 37) 260 (dL s 7), rRy A s, lst rdve (DL.eraseIdx i), rmo m F (upN (upN (upN (upN (upN (upN w 23 fc) 23 fc) 20 (2 + i)) 22 ((dL s 7).length + 3)) 24 0) 23 (fc + 1)) false, iar (F 21) 260 (mkF (s.1 1) (dL s 7)), pt (F 1) (.inl (6, 6, .inr (.inr (.inr (.inr (adD DL)))))), X1] h := stars_ixn hL 8 rfl [3, 2, 4, 5, 0, 1, 6, 7] (by decide) rfl
          have hL : stars [pt d (.inr (10, rdF A s)), iar (A 37) 260 ([]), rRy A s, lst rdve (DL.eraseIdx i), rmo m F (upN (upN (upN (upN (upN (upN w 23 fc) 23 fc) 20 (2 + i)) 22 ((dL s 7).length + 3)) 24 0) 23 (fc + 1)) false, iar (F 21) 260 (mkF (s.1 1) (dL s 7)), pt (F 1) (.inl (6, 6, .inr (.inr (.inr (.inr (adD DL)))))), X1] h := iar_em 1 hL rfl rfl
          refine e_aload_n 126 dX15_begins_125 rfl rfl ?_
          refine e_iconst 127 (v := (nI 0)) dX15_begins_126 rfl (by decide) ?_
          refine p_put 130 hL 0 (fs' := (rdF A s).set 35 (.int (nI 0))) (L' := [pt d (.inr (10, (rdF A s).set 35 (.int (nI 0)))), iar (A 37) 260 ([]), rRy A s, lst rdve (DL.eraseIdx i), rmo m F (upN (upN (upN (upN (upN (upN w 23 fc) 23 fc) 20 (2 + i)) 22 ((dL s 7).length + 3)) 24 0) 23 (fc + 1)) false, iar (F 21) 260 (mkF (s.1 1) (dL s 7)), pt (F 1) (.inl (6, 6, .inr (.inr (.inr (.inr (adD DL)))))), X1]) rfl rfl dX15_begins_127 rfl fp_X15_260_10 (Or.inl rfl) (Nat.le_of_ble_eq_true rfl) rfl rfl rfl (fun h hL => ?_)
          have hL : stars [rdv d (upN s.1 17 (s.1 17), s.2.1, s.2.2.1, s.2.2.2.1, upL s.2.2.2.2.1 7 [], s.2.2.2.2.2), lst rdve (DL.eraseIdx i), rmo m F (upN (upN (upN (upN (upN (upN w 23 fc) 23 fc) 20 (2 + i)) 22 ((dL s 7).length + 3)) 24 0) 23 (fc + 1)) false, iar (F 21) 260 (mkF (s.1 1) (dL s 7)), pt (F 1) (.inl (6, 6, .inr (.inr (.inr (.inr (adD DL)))))), X1] h := rdv_cy (s := s) (A := A) (fs' := (rdF A s).set 35 (.int (nI 0))) (r := []) (x := s.1 17) rfl hL
          rw [upN_same] at hL
          have hL : stars [rdv d (clR s), lst rdve (DL.eraseIdx i), rmo m F (upN (upN (upN (upN (upN (upN w 23 fc) 23 fc) 20 (2 + i)) 22 ((dL s 7).length + 3)) 24 0) 23 (fc + 1)) false, iar (F 21) 260 (mkF (s.1 1) (dL s 7)), pt (F 1) (.inl (6, 6, .inr (.inr (.inr (.inr (adD DL)))))), X1] h := hL
          have hL : stars [lst rdve (DL.set i (d, (clR s))), rmo m F (upN (upN (upN (upN (upN (upN w 23 fc) 23 fc) 20 (2 + i)) 22 ((dL s 7).length + 3)) 24 0) 23 (fc + 1)) false, iar (F 21) 260 (mkF (s.1 1) (dL s 7)), pt (F 1) (.inl (6, 6, .inr (.inr (.inr (.inr (adD DL)))))), X1] h := lst_c (f := rdve) (x := (d, (clR s))) i (by omega) hL
          rw [adD_set he (clR s)] at hL
          have hL : stars [lst rdve (DL.set i (d, (clR s))), rmo m F (upN (upN (upN (upN (upN (upN w 23 fc) 23 fc) 20 (2 + i)) 22 ((dL s 7).length + 3)) 24 0) 23 (fc + 1)) false, iar (F 21) 260 (mkF (s.1 1) (dL s 7)), pt (F 1) (.inl (6, 6, .inr (.inr (.inr (.inr (adD (DL.set i (d, (clR s))))))))), X1] h := hL
          exact e_vret dX15_begins_130 rfl (by omega) (by omega) (ks i d s h (by omega) he (by rw [rdy, show decide (0 < (s.2.2.2.2.1 7).length) = true from decide_eq_true (show 0 < (dL s 7).length by omega), show decide (s.1 17 = 0) = true from decide_eq_true (show s.1 17 = 0 by omega)]; rfl) hn (stars_ixn hL 5 rfl [1, 2, 3, 0, 4] (by decide) rfl))
        · have k100 := j_le0_f (a := (s.1 17)) (by omega) c100
          refine e_goto 131 dX15_begins_103 rfl ?_
          have hL : stars [lst rdve DL, pt m (.inr (13, moF F (upN w 23 fc) bg)), iar (F 21) 260 fr0, pt (F 1) (.inl (6, 6, .inr (.inr (.inr (.inr (adD DL)))))), X1] h := lst_b (f := rdve) i he hL
          refine e_iinc 134 (v := (nI (i + 1))) (ls' := [some (.ref m), some (.int (nI (i + 1))), some (.ref d)]) dX15_begins_131 rfl rfl (nI_add i 1) (by decide) rfl ?_
          refine e_goto 74 dX15_begins_134 rfl ?_
          have hL : stars [pt m (.inr (13, moF F (upN w 23 fc) bg)), iar (F 21) 260 fr0, pt (F 1) (.inl (6, 6, .inr (.inr (.inr (.inr (adD DL)))))), lst rdve DL, X1] h := stars_ixn hL 5 rfl [1, 2, 3, 0, 4] (by decide) rfl
          refine e_wk [some (.ref m), some (.int (nI (i + 1))), none] ⟨rfl, rfl, trivial⟩ ?_
          exact ih (i + 1) h (by omega) (by omega) (fun j t hj ht => (Nat.lt_succ_iff_lt_or_eq.mp hj).elim (fun z => hn j t z ht) (fun z => by rw [z, hsD] at ht; cases ht; rw [rdy, show decide (s.1 17 = 0) = false from decide_eq_false (show ¬ s.1 17 = 0 by omega), Bool.and_false])) hL
