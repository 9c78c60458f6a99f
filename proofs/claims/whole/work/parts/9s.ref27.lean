/-! the reference: requests, results -/
theorem rrw_ad2 {a n nm : Nat} {E : List EN} {A : Nat → Nat} {x l : List Nat} {X : List sA} {h : eH} (hn : (E ++ [(x, [])]).length ≤ n) (k : stars (rro a A (E ++ [(x, [])]).length :: grd (A 0) n 256 (rE1 (E ++ [(x, [])])) :: iar (A 1) n (rZ (E ++ [(x, [])])) :: grd (A 2) n nm (upL (rE2 (E ++ [(x, [])])) E.length l) :: X) h) : stars (rrw a n nm (E ++ [(x, l)]) :: X) h := by
  have z := rrw_st hn (by rw [List.length_append]; exact Nat.lt_succ_self _) k
  rw [rE1_app, if_pos rfl, set_app] at z
  exact z
theorem rE2_new {E : List EN} {x : List Nat} : rE2 (E ++ [(x, [])]) E.length = [] := rE2_app.trans (if_pos rfl)
theorem rrw_cS {a n nm : Nat} {E : List EN} {A : Nat → Nat} {j : Nat} {l : List Nat} {X : List sA} {h : eH} (hn : E.length ≤ n) (hl : rE2 E j = l) (k : stars (rro a A E.length :: grd (A 0) n 256 (rE1 E) :: iar (A 1) n (rZ E) :: grd (A 2) n nm (upL (rE2 E) j l) :: X) h) : stars (rrw a n nm E :: X) h := by
  subst hl
  rw [upL_self] at k
  exact rrw_c hn k
/-- a result more, if there is room -/
def thG (G : List EN) (x : EN) : List EN := if G.length = 32 then G else G ++ [x]
set_option maxRecDepth 20000 in
set_option maxHeartbeats 2000000 in
theorem k_X15_newRequest {m b bn ad c nx : Nat} {F w : Nat → Nat} {bg : Bool} {E : List EN} {src : List Nat} (hE : E.length < 16) (hc : c ≤ 253) (ht : c ≤ src.length) (hbn : bn < 100000) : CA mX15_newRequest [.ref m, .int (nI ad), .ref b, .int (nI c)] [pt m (.inr (13, moF F (upN w 15 nx) bg)), rrw (F 12) 16 3 E, iar b bn src] (fun x9 K => x9 = some (.int (nI nx)) ∧ K = [pt m (.inr (13, moF F (upN w 15 (nx + 1)) bg)), rrw (F 12) 16 3 (E ++ [(pf src 0 c, [ad, nx, 0])]), iar b bn src]) 1 30 0 0 := by
  refine CA.mk 1 (ls := [some (.ref m), some (.int (nI ad)), some (.ref b), some (.int (nI c)), none]) rfl rfl (Nat.le_of_ble_eq_true rfl) rfl (fun h hL => ?_)
  refine e_aload_n 1 dX15_newRequest_0 rfl rfl ?_
  refine e_get 4 (v := (.ref (F 12))) dX15_newRequest_1 rfl fl_X15_44_13 (stars_at _ 0 hL rfl) rfl ?_
  refine e_aload_n 5 dX15_newRequest_4 rfl rfl ?_
  refine e_iconst 6 (v := (nI 0)) dX15_newRequest_5 rfl (by decide) ?_
  refine e_iload_n 7 dX15_newRequest_6 rfl rfl ?_
  refine p_callV 10 hL [1, 2, 0] 3 rfl (by decide) (L1 := [rrw (F 12) 16 3 E, iar b bn src]) (L2 := [pt m (.inr (13, moF F (upN w 15 nx) bg))]) rfl rrw_O 1 rfl dX15_newRequest_7 rfl cv_X15_288 (k_X13_adds (t := 0) (c := c) hE (by decide) hc (by omega) hbn) rfl rfl (Nat.le_of_ble_eq_true rfl) ⟨by decide, by omega, by omega⟩ (fun r1 L1 h q hL => ?_)
  obtain ⟨rfl, rfl⟩ := q
  have hL : stars [rrw (F 12) 16 3 (E ++ [(pf src 0 c, [])]), iar b bn src, pt m (.inr (13, moF F (upN w 15 nx) bg))] h := hL
  have hL : stars [pt m (.inr (13, moF F (upN w 15 nx) bg)), rrw (F 12) 16 3 (E ++ [(pf src 0 c, [])]), iar b bn src] h := stars_ixn hL 3 rfl [2, 0, 1] (by decide) rfl
  refine e_istore 12 (ls' := [some (.ref m), some (.int (nI ad)), some (.ref b), some (.int (nI c)), some (.int (nI E.length))]) dX15_newRequest_10 rfl (by decide) rfl ?_
  have hL : stars [rrw (F 12) 16 3 (E ++ [(pf src 0 c, [])]), pt m (.inr (13, moF F (upN w 15 nx) bg)), iar b bn src] h := stars_ixn hL 3 rfl [1, 0, 2] (by decide) rfl
  obtain ⟨A, hnA, hL⟩ := rrw_o hL
  have hL : stars [pt (F 12) (.inr (11, [.ref (A 0), .ref (A 1), .ref (A 2), .int (nI (E ++ [(pf src 0 c, [])]).length)])), grd (A 0) 16 256 (rE1 (E ++ [(pf src 0 c, [])])), iar (A 1) 16 (rZ (E ++ [(pf src 0 c, [])])), grd (A 2) 16 3 (rE2 (E ++ [(pf src 0 c, [])])), pt m (.inr (13, moF F (upN w 15 nx) bg)), iar b bn src] h := hL
  have hL : stars [grd (A 2) 16 3 (rE2 (E ++ [(pf src 0 c, [])])), pt (F 12) (.inr (11, [.ref (A 0), .ref (A 1), .ref (A 2), .int (nI (E ++ [(pf src 0 c, [])]).length)])), grd (A 0) 16 256 (rE1 (E ++ [(pf src 0 c, [])])), iar (A 1) 16 (rZ (E ++ [(pf src 0 c, [])])), pt m (.inr (13, moF F (upN w 15 nx) bg)), iar b bn src] h := stars_ixn hL 6 rfl [3, 0, 1, 2, 4, 5] (by decide) rfl
  obtain ⟨b0, R0, hL, hR0, hC0⟩ := grd_at (i := E.length) (by omega) hL
  have hL : stars [iar b0 3 ((rE2 (E ++ [(pf src 0 c, [])])) E.length), R0, pt (F 12) (.inr (11, [.ref (A 0), .ref (A 1), .ref (A 2), .int (nI (E ++ [(pf src 0 c, [])]).length)])), grd (A 0) 16 256 (rE1 (E ++ [(pf src 0 c, [])])), iar (A 1) 16 (rZ (E ++ [(pf src 0 c, [])])), pt m (.inr (13, moF F (upN w 15 nx) bg)), iar b bn src] h := hL
  rw [show ((rE2 (E ++ [(pf src 0 c, [])])) E.length) = [] from rE2_new] at hL
  have hL : stars [iar b0 3 ([]), R0, pt (F 12) (.inr (11, [.ref (A 0), .ref (A 1), .ref (A 2), .int (nI (E ++ [(pf src 0 c, [])]).length)])), grd (A 0) 16 256 (rE1 (E ++ [(pf src 0 c, [])])), iar (A 1) 16 (rZ (E ++ [(pf src 0 c, [])])), pt m (.inr (13, moF F (upN w 15 nx) bg)), iar b bn src] h := hL
  refine e_aload_n 13 dX15_newRequest_12 rfl rfl ?_
  refine e_get 16 (v := (.ref (F 12))) dX15_newRequest_13 rfl fl_X15_44_13 (stars_at _ 5 hL rfl) rfl ?_
  refine e_get 19 dX15_newRequest_16 rfl fl_X15_292_11 (stars_at _ 2 hL rfl) rfl ?_
  refine e_iload 21 dX15_newRequest_19 rfl rfl ?_
  refine v_aaldP 22 (grP_V _ 1 hL rfl hR0) dX15_newRequest_21 rfl (by omega) (by omega) ?_
  refine e_iconst 23 (v := (nI 0)) dX15_newRequest_22 rfl (by decide) ?_
  refine e_iload_n 24 dX15_newRequest_23 rfl rfl ?_
  refine p_iastR 25 hL 0 (r := []) (r' := [ad]) (k := 0) (v := ad) (L' := [iar b0 3 ([ad]), R0, pt (F 12) (.inr (11, [.ref (A 0), .ref (A 1), .ref (A 2), .int (nI (E ++ [(pf src 0 c, [])]).length)])), grd (A 0) 16 256 (rE1 (E ++ [(pf src 0 c, [])])), iar (A 1) 16 (rZ (E ++ [(pf src 0 c, [])])), pt m (.inr (13, moF F (upN w 15 nx) bg)), iar b bn src]) rfl dX15_newRequest_24 rfl (by omega) (by omega) (iw_ap (r := []) (v := ad) rfl (Nat.le_of_ble_eq_true rfl)) rfl (fun h hL => ?_)
  refine e_aload_n 26 dX15_newRequest_25 rfl rfl ?_
  refine e_get 29 (v := (.ref (F 12))) dX15_newRequest_26 rfl fl_X15_44_13 (stars_at _ 5 hL rfl) rfl ?_
  refine e_get 32 dX15_newRequest_29 rfl fl_X15_292_11 (stars_at _ 2 hL rfl) rfl ?_
  refine e_iload 34 dX15_newRequest_32 rfl rfl ?_
  refine v_aaldP 35 (grP_V _ 1 hL rfl hR0) dX15_newRequest_34 rfl (by omega) (by omega) ?_
  refine e_iconst 36 (v := (nI 1)) dX15_newRequest_35 rfl (by decide) ?_
  refine e_aload_n 37 dX15_newRequest_36 rfl rfl ?_
  refine e_get 40 (v := (.int (nI nx))) dX15_newRequest_37 rfl fl_X15_295_13 (stars_at _ 5 hL rfl) rfl ?_
  refine p_iastR 41 hL 0 (r := [ad]) (r' := [ad, nx]) (k := 1) (v := nx) (L' := [iar b0 3 ([ad, nx]), R0, pt (F 12) (.inr (11, [.ref (A 0), .ref (A 1), .ref (A 2), .int (nI (E ++ [(pf src 0 c, [])]).length)])), grd (A 0) 16 256 (rE1 (E ++ [(pf src 0 c, [])])), iar (A 1) 16 (rZ (E ++ [(pf src 0 c, [])])), pt m (.inr (13, moF F (upN w 15 nx) bg)), iar b bn src]) rfl dX15_newRequest_40 rfl (by omega) (by omega) (iw_ap (r := [ad]) (v := nx) rfl (Nat.le_of_ble_eq_true rfl)) rfl (fun h hL => ?_)
  refine e_aload_n 42 dX15_newRequest_41 rfl rfl ?_
  refine e_get 45 (v := (.ref (F 12))) dX15_newRequest_42 rfl fl_X15_44_13 (stars_at _ 5 hL rfl) rfl ?_
  refine e_get 48 dX15_newRequest_45 rfl fl_X15_292_11 (stars_at _ 2 hL rfl) rfl ?_
  refine e_iload 50 dX15_newRequest_48 rfl rfl ?_
  refine v_aaldP 51 (grP_V _ 1 hL rfl hR0) dX15_newRequest_50 rfl (by omega) (by omega) ?_
  refine e_iconst 52 (v := (nI 2)) dX15_newRequest_51 rfl (by decide) ?_
  refine e_iconst 53 (v := (nI 0)) dX15_newRequest_52 rfl (by decide) ?_
  refine p_iastR 54 hL 0 (r := [ad, nx]) (r' := [ad, nx, 0]) (k := 2) (v := 0) (L' := [iar b0 3 ([ad, nx, 0]), R0, pt (F 12) (.inr (11, [.ref (A 0), .ref (A 1), .ref (A 2), .int (nI (E ++ [(pf src 0 c, [])]).length)])), grd (A 0) 16 256 (rE1 (E ++ [(pf src 0 c, [])])), iar (A 1) 16 (rZ (E ++ [(pf src 0 c, [])])), pt m (.inr (13, moF F (upN w 15 nx) bg)), iar b bn src]) rfl dX15_newRequest_53 rfl (by omega) (by omega) (iw_ap (r := [ad, nx]) (v := 0) rfl (Nat.le_of_ble_eq_true rfl)) rfl (fun h hL => ?_)
  refine e_aload_n 55 dX15_newRequest_54 rfl rfl ?_
  refine e_dup 56 dX15_newRequest_55 rfl rfl ?_
  refine e_get 59 (v := (.int (nI nx))) dX15_newRequest_56 rfl fl_X15_295_13 (stars_at _ 5 hL rfl) rfl ?_
  refine e_iconst 60 (v := (nI 1)) dX15_newRequest_59 rfl (by decide) ?_
  refine e_iadd 61 (v := (nI (nx + 1))) dX15_newRequest_60 rfl (nI_add nx 1) ?_
  refine p_put 64 hL 5 (fs' := moF F (upN (upN w 15 nx) 15 (nx + 1)) bg) (L' := [iar b0 3 ([ad, nx, 0]), R0, pt (F 12) (.inr (11, [.ref (A 0), .ref (A 1), .ref (A 2), .int (nI (E ++ [(pf src 0 c, [])]).length)])), grd (A 0) 16 256 (rE1 (E ++ [(pf src 0 c, [])])), iar (A 1) 16 (rZ (E ++ [(pf src 0 c, [])])), pt m (.inr (13, moF F (upN (upN w 15 nx) 15 (nx + 1)) bg)), iar b bn src]) rfl rfl dX15_newRequest_61 rfl fp_X15_295_13 (Or.inl rfl) (Nat.le_of_ble_eq_true rfl) rfl rfl rfl (fun h hL => ?_)
  have hL : stars [grd (A 2) 16 3 (upL (rE2 (E ++ [(pf src 0 c, [])])) E.length ([ad, nx, 0])), pt (F 12) (.inr (11, [.ref (A 0), .ref (A 1), .ref (A 2), .int (nI (E ++ [(pf src 0 c, [])]).length)])), grd (A 0) 16 256 (rE1 (E ++ [(pf src 0 c, [])])), iar (A 1) 16 (rZ (E ++ [(pf src 0 c, [])])), pt m (.inr (13, moF F (upN (upN w 15 nx) 15 (nx + 1)) bg)), iar b bn src] h := hC0 _ _ _ hL
  have hL : stars [pt (F 12) (.inr (11, [.ref (A 0), .ref (A 1), .ref (A 2), .int (nI (E ++ [(pf src 0 c, [])]).length)])), grd (A 0) 16 256 (rE1 (E ++ [(pf src 0 c, [])])), iar (A 1) 16 (rZ (E ++ [(pf src 0 c, [])])), grd (A 2) 16 3 (upL (rE2 (E ++ [(pf src 0 c, [])])) E.length ([ad, nx, 0])), pt m (.inr (13, moF F (upN (upN w 15 nx) 15 (nx + 1)) bg)), iar b bn src] h := stars_ixn hL 6 rfl [1, 2, 3, 0, 4, 5] (by decide) rfl
  have hL : stars [rrw (F 12) 16 3 (E ++ [(pf src 0 c, [ad, nx, 0])]), pt m (.inr (13, moF F (upN (upN w 15 nx) 15 (nx + 1)) bg)), iar b bn src] h := rrw_ad2 hnA hL
  refine e_aload_n 65 dX15_newRequest_64 rfl rfl ?_
  refine e_get 68 (v := (.int (nI (nx + 1)))) dX15_newRequest_65 rfl fl_X15_295_13 (stars_at _ 1 hL rfl) rfl ?_
  refine e_iconst 69 (v := (nI 1)) dX15_newRequest_68 rfl (by decide) ?_
  refine e_isub 70 (v := (nI nx)) dX15_newRequest_69 rfl (by rw [pk_sub (by omega), Nat.add_sub_cancel]) ?_
  exact e_iret dX15_newRequest_70 rfl (by omega) (by omega) (⟨_, ⟨rfl, rfl⟩, (stars_ixn hL 3 rfl [1, 0, 2] (by decide) rfl)⟩)
set_option maxRecDepth 20000 in
set_option maxHeartbeats 2000000 in
theorem k_X15_through {m oc co fr9 n dg ls9 ad nu at9 qt : Nat} {F w : Nat → Nat} {bg sp ov : Bool} {T G : List EN} {q er : List Nat} (hG : G.length ≤ 32) (hn : n ≤ 253) (ht : fr9 + n ≤ er.length) : CA mX15_through [.ref m, .int (nI oc), .int (nI co), .int (nI fr9), .int (nI n)] [pt m (.inr (13, moF F (upN (upN w 7 dg) 16 ls9) bg)), rst (F 6) er qt sp ov, rrw (F 12) 16 3 ((q, [ad, nu, at9]) :: T), rrw (F 13) 32 5 G] (fun x9 K => x9 = none ∧ K = [pt m (.inr (13, moF F (upN (upN w 7 0) 16 (if G.length = 32 then ls9 + 1 else ls9)) bg)), rst (F 6) er qt sp ov, rrw (F 12) 16 3 T, rrw (F 13) 32 5 (thG G (pf er fr9 n, [nu, oc, co, at9, ad]))]) 1 40 0 0 := by
  refine CA.mk 2 (ls := [some (.ref m), some (.int (nI oc)), some (.int (nI co)), some (.int (nI fr9)), some (.int (nI n)), none, none]) rfl rfl (Nat.le_of_ble_eq_true rfl) rfl (fun h hL => ?_)
  have hL : stars [rst (F 6) er qt sp ov, pt m (.inr (13, moF F (upN (upN w 7 dg) 16 ls9) bg)), rrw (F 12) 16 3 ((q, [ad, nu, at9]) :: T), rrw (F 13) 32 5 G] h := stars_ixn hL 4 rfl [1, 0, 2, 3] (by decide) rfl
  obtain ⟨sa, hL⟩ := rst_o hL
  have hL : stars [pt (F 6) (.inr (12, [.ref sa, .int (nI er.length), .int (nI qt), .int (bI sp), .int (bI ov)])), iar sa 256 er, pt m (.inr (13, moF F (upN (upN w 7 dg) 16 ls9) bg)), rrw (F 12) 16 3 ((q, [ad, nu, at9]) :: T), rrw (F 13) 32 5 G] h := hL
  have hL : stars [rrw (F 12) 16 3 ((q, [ad, nu, at9]) :: T), pt (F 6) (.inr (12, [.ref sa, .int (nI er.length), .int (nI qt), .int (bI sp), .int (bI ov)])), iar sa 256 er, pt m (.inr (13, moF F (upN (upN w 7 dg) 16 ls9) bg)), rrw (F 13) 32 5 G] h := stars_ixn hL 5 rfl [3, 0, 1, 2, 4] (by decide) rfl
  obtain ⟨A, hnA, hL⟩ := rrw_o hL
  have hL : stars [pt (F 12) (.inr (11, [.ref (A 0), .ref (A 1), .ref (A 2), .int (nI ((q, [ad, nu, at9]) :: T).length)])), grd (A 0) 16 256 (rE1 ((q, [ad, nu, at9]) :: T)), iar (A 1) 16 (rZ ((q, [ad, nu, at9]) :: T)), grd (A 2) 16 3 (rE2 ((q, [ad, nu, at9]) :: T)), pt (F 6) (.inr (12, [.ref sa, .int (nI er.length), .int (nI qt), .int (bI sp), .int (bI ov)])), iar sa 256 er, pt m (.inr (13, moF F (upN (upN w 7 dg) 16 ls9) bg)), rrw (F 13) 32 5 G] h := hL
  have hL : stars [grd (A 2) 16 3 (rE2 ((q, [ad, nu, at9]) :: T)), pt (F 12) (.inr (11, [.ref (A 0), .ref (A 1), .ref (A 2), .int (nI ((q, [ad, nu, at9]) :: T).length)])), grd (A 0) 16 256 (rE1 ((q, [ad, nu, at9]) :: T)), iar (A 1) 16 (rZ ((q, [ad, nu, at9]) :: T)), pt (F 6) (.inr (12, [.ref sa, .int (nI er.length), .int (nI qt), .int (bI sp), .int (bI ov)])), iar sa 256 er, pt m (.inr (13, moF F (upN (upN w 7 dg) 16 ls9) bg)), rrw (F 13) 32 5 G] h := stars_ixn hL 8 rfl [3, 0, 1, 2, 4, 5, 6, 7] (by decide) rfl
  obtain ⟨b0, R0, hL, hR0, hC0⟩ := grd_at (i := 0) (by omega) hL
  have hL : stars [iar b0 3 ((rE2 ((q, [ad, nu, at9]) :: T)) 0), R0, pt (F 12) (.inr (11, [.ref (A 0), .ref (A 1), .ref (A 2), .int (nI ((q, [ad, nu, at9]) :: T).length)])), grd (A 0) 16 256 (rE1 ((q, [ad, nu, at9]) :: T)), iar (A 1) 16 (rZ ((q, [ad, nu, at9]) :: T)), pt (F 6) (.inr (12, [.ref sa, .int (nI er.length), .int (nI qt), .int (bI sp), .int (bI ov)])), iar sa 256 er, pt m (.inr (13, moF F (upN (upN w 7 dg) 16 ls9) bg)), rrw (F 13) 32 5 G] h := hL
  have hL : stars [iar b0 3 ([ad, nu, at9]), R0, pt (F 12) (.inr (11, [.ref (A 0), .ref (A 1), .ref (A 2), .int (nI ((q, [ad, nu, at9]) :: T).length)])), grd (A 0) 16 256 (rE1 ((q, [ad, nu, at9]) :: T)), iar (A 1) 16 (rZ ((q, [ad, nu, at9]) :: T)), pt (F 6) (.inr (12, [.ref sa, .int (nI er.length), .int (nI qt), .int (bI sp), .int (bI ov)])), iar sa 256 er, pt m (.inr (13, moF F (upN (upN w 7 dg) 16 ls9) bg)), rrw (F 13) 32 5 G] h := hL
  refine e_aload_n 1 dX15_through_0 rfl rfl ?_
  refine e_get 4 (v := (.ref (F 12))) dX15_through_1 rfl fl_X15_44_13 (stars_at _ 7 hL rfl) rfl ?_
  refine e_get 7 dX15_through_4 rfl fl_X15_292_11 (stars_at _ 2 hL rfl) rfl ?_
  refine e_iconst 8 (v := (nI 0)) dX15_through_7 rfl (by decide) ?_
  refine v_aaldP 9 (grP_V _ 1 hL rfl hR0) dX15_through_8 rfl (by omega) (by omega) ?_
  refine e_astore 11 (ls' := [some (.ref m), some (.int (nI oc)), some (.int (nI co)), some (.int (nI fr9)), some (.int (nI n)), some (.ref b0), none]) dX15_through_9 rfl (by decide) rfl ?_
  refine e_aload_n 12 dX15_through_11 rfl rfl ?_
  refine e_get 15 (v := (.ref (F 13))) dX15_through_12 rfl fl_X15_48_13 (stars_at _ 7 hL rfl) rfl ?_
  obtain ⟨A15, u15_0, u15_1, u15_2, u15_3, u15_4⟩ := rrw_V _ 8 hL rfl
  refine e_get 18 (v := (.int (nI G.length))) dX15_through_15 rfl fl_X15_298_11 u15_0 rfl ?_
  refine e_bipush 20 (v := (nI 32)) dX15_through_18 rfl (by decide) ?_
  refine e_icmp_ne 36 23 dX15_through_20 rfl rfl (fun c20 => ?_) (fun c20 => ?_)
  · have k20 := j_ne_t (a := G.length) (b := 32) (by omega) (by omega) c20
    refine e_aload_n 37 dX15_through_36 rfl rfl ?_
    refine e_get 40 (v := (.ref (F 13))) dX15_through_37 rfl fl_X15_48_13 (stars_at _ 7 hL rfl) rfl ?_
    refine e_aload_n 41 dX15_through_40 rfl rfl ?_
    refine e_get 44 (v := (.ref (F 6))) dX15_through_41 rfl fl_X15_25_13 (stars_at _ 7 hL rfl) rfl ?_
    refine e_get 47 dX15_through_44 rfl fl_X15_302_12 (stars_at _ 5 hL rfl) rfl ?_
    refine e_iload_n 48 dX15_through_47 rfl rfl ?_
    refine e_iload 50 dX15_through_48 rfl rfl ?_
    refine p_callV 53 hL [8, 6, 0, 1, 2, 3, 4, 5, 7] 9 rfl (by decide) (L1 := [rrw (F 13) 32 5 G, iar sa 256 er]) (L2 := [iar b0 3 ([ad, nu, at9]), R0, pt (F 12) (.inr (11, [.ref (A 0), .ref (A 1), .ref (A 2), .int (nI ((q, [ad, nu, at9]) :: T).length)])), grd (A 0) 16 256 (rE1 ((q, [ad, nu, at9]) :: T)), iar (A 1) 16 (rZ ((q, [ad, nu, at9]) :: T)), pt (F 6) (.inr (12, [.ref sa, .int (nI er.length), .int (nI qt), .int (bI sp), .int (bI ov)])), pt m (.inr (13, moF F (upN (upN w 7 dg) 16 ls9) bg))]) rfl rrw_O 8 rfl dX15_through_50 rfl cv_X15_288 (k_X13_adds (t := fr9) (c := n) (by omega) (by decide) hn ht (by decide)) rfl rfl (Nat.le_of_ble_eq_true rfl) ⟨by decide, by omega, by omega⟩ (fun r1 L1 h q hL => ?_)
    obtain ⟨rfl, rfl⟩ := q
    have hL : stars [rrw (F 13) 32 5 (G ++ [(pf er fr9 n, [])]), iar sa 256 er, iar b0 3 ([ad, nu, at9]), R0, pt (F 12) (.inr (11, [.ref (A 0), .ref (A 1), .ref (A 2), .int (nI ((q, [ad, nu, at9]) :: T).length)])), grd (A 0) 16 256 (rE1 ((q, [ad, nu, at9]) :: T)), iar (A 1) 16 (rZ ((q, [ad, nu, at9]) :: T)), pt (F 6) (.inr (12, [.ref sa, .int (nI er.length), .int (nI qt), .int (bI sp), .int (bI ov)])), pt m (.inr (13, moF F (upN (upN w 7 dg) 16 ls9) bg))] h := hL
    have hL : stars [iar b0 3 ([ad, nu, at9]), R0, pt (F 12) (.inr (11, [.ref (A 0), .ref (A 1), .ref (A 2), .int (nI ((q, [ad, nu, at9]) :: T).length)])), grd (A 0) 16 256 (rE1 ((q, [ad, nu, at9]) :: T)), iar (A 1) 16 (rZ ((q, [ad, nu, at9]) :: T)), pt (F 6) (.inr (12, [.ref sa, .int (nI er.length), .int (nI qt), .int (bI sp), .int (bI ov)])), iar sa 256 er, pt m (.inr (13, moF F (upN (upN w 7 dg) 16 ls9) bg)), rrw (F 13) 32 5 (G ++ [(pf er fr9 n, [])])] h := stars_ixn hL 9 rfl [2, 3, 4, 5, 6, 7, 1, 8, 0] (by decide) rfl
    refine e_istore 55 (ls' := [some (.ref m), some (.int (nI oc)), some (.int (nI co)), some (.int (nI fr9)), some (.int (nI n)), some (.ref b0), some (.int (nI G.length))]) dX15_through_53 rfl (by decide) rfl ?_
    have hL : stars [rrw (F 13) 32 5 (G ++ [(pf er fr9 n, [])]), iar b0 3 ([ad, nu, at9]), R0, pt (F 12) (.inr (11, [.ref (A 0), .ref (A 1), .ref (A 2), .int (nI ((q, [ad, nu, at9]) :: T).length)])), grd (A 0) 16 256 (rE1 ((q, [ad, nu, at9]) :: T)), iar (A 1) 16 (rZ ((q, [ad, nu, at9]) :: T)), pt (F 6) (.inr (12, [.ref sa, .int (nI er.length), .int (nI qt), .int (bI sp), .int (bI ov)])), iar sa 256 er, pt m (.inr (13, moF F (upN (upN w 7 dg) 16 ls9) bg))] h := stars_ixn hL 9 rfl [8, 0, 1, 2, 3, 4, 5, 6, 7] (by decide) rfl
    obtain ⟨B, hnB, hL⟩ := rrw_o hL
    have hL : stars [pt (F 13) (.inr (11, [.ref (B 0), .ref (B 1), .ref (B 2), .int (nI (G ++ [(pf er fr9 n, [])]).length)])), grd (B 0) 32 256 (rE1 (G ++ [(pf er fr9 n, [])])), iar (B 1) 32 (rZ (G ++ [(pf er fr9 n, [])])), grd (B 2) 32 5 (rE2 (G ++ [(pf er fr9 n, [])])), iar b0 3 ([ad, nu, at9]), R0, pt (F 12) (.inr (11, [.ref (A 0), .ref (A 1), .ref (A 2), .int (nI ((q, [ad, nu, at9]) :: T).length)])), grd (A 0) 16 256 (rE1 ((q, [ad, nu, at9]) :: T)), iar (A 1) 16 (rZ ((q, [ad, nu, at9]) :: T)), pt (F 6) (.inr (12, [.ref sa, .int (nI er.length), .int (nI qt), .int (bI sp), .int (bI ov)])), iar sa 256 er, pt m (.inr (13, moF F (upN (upN w 7 dg) 16 ls9) bg))] h := hL
    have hL : stars [grd (B 2) 32 5 (rE2 (G ++ [(pf er fr9 n, [])])), pt (F 13) (.inr (11, [.ref (B 0), .ref (B 1), .ref (B 2), .int (nI (G ++ [(pf er fr9 n, [])]).length)])), grd (B 0) 32 256 (rE1 (G ++ [(pf er fr9 n, [])])), iar (B 1) 32 (rZ (G ++ [(pf er fr9 n, [])])), iar b0 3 ([ad, nu, at9]), R0, pt (F 12) (.inr (11, [.ref (A 0), .ref (A 1), .ref (A 2), .int (nI ((q, [ad, nu, at9]) :: T).length)])), grd (A 0) 16 256 (rE1 ((q, [ad, nu, at9]) :: T)), iar (A 1) 16 (rZ ((q, [ad, nu, at9]) :: T)), pt (F 6) (.inr (12, [.ref sa, .int (nI er.length), .int (nI qt), .int (bI sp), .int (bI ov)])), iar sa 256 er, pt m (.inr (13, moF F (upN (upN w 7 dg) 16 ls9) bg))] h := stars_ixn hL 12 rfl [3, 0, 1, 2, 4, 5, 6, 7, 8, 9, 10, 11] (by decide) rfl
    obtain ⟨b1, R1, hL, hR1, hC1⟩ := grd_at (i := G.length) (by omega) hL
    have hL : stars [iar b1 5 ((rE2 (G ++ [(pf er fr9 n, [])])) G.length), R1, pt (F 13) (.inr (11, [.ref (B 0), .ref (B 1), .ref (B 2), .int (nI (G ++ [(pf er fr9 n, [])]).length)])), grd (B 0) 32 256 (rE1 (G ++ [(pf er fr9 n, [])])), iar (B 1) 32 (rZ (G ++ [(pf er fr9 n, [])])), iar b0 3 ([ad, nu, at9]), R0, pt (F 12) (.inr (11, [.ref (A 0), .ref (A 1), .ref (A 2), .int (nI ((q, [ad, nu, at9]) :: T).length)])), grd (A 0) 16 256 (rE1 ((q, [ad, nu, at9]) :: T)), iar (A 1) 16 (rZ ((q, [ad, nu, at9]) :: T)), pt (F 6) (.inr (12, [.ref sa, .int (nI er.length), .int (nI qt), .int (bI sp), .int (bI ov)])), iar sa 256 er, pt m (.inr (13, moF F (upN (upN w 7 dg) 16 ls9) bg))] h := hL
    rw [show ((rE2 (G ++ [(pf er fr9 n, [])])) G.length) = [] from rE2_new] at hL
    have hL : stars [iar b1 5 ([]), R1, pt (F 13) (.inr (11, [.ref (B 0), .ref (B 1), .ref (B 2), .int (nI (G ++ [(pf er fr9 n, [])]).length)])), grd (B 0) 32 256 (rE1 (G ++ [(pf er fr9 n, [])])), iar (B 1) 32 (rZ (G ++ [(pf er fr9 n, [])])), iar b0 3 ([ad, nu, at9]), R0, pt (F 12) (.inr (11, [.ref (A 0), .ref (A 1), .ref (A 2), .int (nI ((q, [ad, nu, at9]) :: T).length)])), grd (A 0) 16 256 (rE1 ((q, [ad, nu, at9]) :: T)), iar (A 1) 16 (rZ ((q, [ad, nu, at9]) :: T)), pt (F 6) (.inr (12, [.ref sa, .int (nI er.length), .int (nI qt), .int (bI sp), .int (bI ov)])), iar sa 256 er, pt m (.inr (13, moF F (upN (upN w 7 dg) 16 ls9) bg))] h := hL
    refine e_aload_n 56 dX15_through_55 rfl rfl ?_
    refine e_get 59 (v := (.ref (F 13))) dX15_through_56 rfl fl_X15_48_13 (stars_at _ 12 hL rfl) rfl ?_
    refine e_get 62 dX15_through_59 rfl fl_X15_292_11 (stars_at _ 2 hL rfl) rfl ?_
    refine e_iload 64 dX15_through_62 rfl rfl ?_
    refine v_aaldP 65 (grP_V _ 1 hL rfl hR1) dX15_through_64 rfl (by omega) (by omega) ?_
    refine e_iconst 66 (v := (nI 0)) dX15_through_65 rfl (by decide) ?_
    refine e_aload 68 dX15_through_66 rfl rfl ?_
    refine e_iconst 69 (v := (nI 1)) dX15_through_68 rfl (by decide) ?_
    refine v_iald 70 (r := [ad, nu, at9]) (iar_V _ 5 hL rfl) (k := 1) (x := nu) dX15_through_69 rfl (Nat.le_of_ble_eq_true rfl) (by omega) rfl ?_
    refine p_iastR 71 hL 0 (r := []) (r' := [nu]) (k := 0) (v := nu) (L' := [iar b1 5 ([nu]), R1, pt (F 13) (.inr (11, [.ref (B 0), .ref (B 1), .ref (B 2), .int (nI (G ++ [(pf er fr9 n, [])]).length)])), grd (B 0) 32 256 (rE1 (G ++ [(pf er fr9 n, [])])), iar (B 1) 32 (rZ (G ++ [(pf er fr9 n, [])])), iar b0 3 ([ad, nu, at9]), R0, pt (F 12) (.inr (11, [.ref (A 0), .ref (A 1), .ref (A 2), .int (nI ((q, [ad, nu, at9]) :: T).length)])), grd (A 0) 16 256 (rE1 ((q, [ad, nu, at9]) :: T)), iar (A 1) 16 (rZ ((q, [ad, nu, at9]) :: T)), pt (F 6) (.inr (12, [.ref sa, .int (nI er.length), .int (nI qt), .int (bI sp), .int (bI ov)])), iar sa 256 er, pt m (.inr (13, moF F (upN (upN w 7 dg) 16 ls9) bg))]) rfl dX15_through_70 rfl (by omega) (by omega) (iw_ap (r := []) (v := nu) rfl (Nat.le_of_ble_eq_true rfl)) rfl (fun h hL => ?_)
    refine e_aload_n 72 dX15_through_71 rfl rfl ?_
    refine e_get 75 (v := (.ref (F 13))) dX15_through_72 rfl fl_X15_48_13 (stars_at _ 12 hL rfl) rfl ?_
    refine e_get 78 dX15_through_75 rfl fl_X15_292_11 (stars_at _ 2 hL rfl) rfl ?_
    refine e_iload 80 dX15_through_78 rfl rfl ?_
    refine v_aaldP 81 (grP_V _ 1 hL rfl hR1) dX15_through_80 rfl (by omega) (by omega) ?_
    refine e_iconst 82 (v := (nI 1)) dX15_through_81 rfl (by decide) ?_
    refine e_iload_n 83 dX15_through_82 rfl rfl ?_
    refine p_iastR 84 hL 0 (r := [nu]) (r' := [nu, oc]) (k := 1) (v := oc) (L' := [iar b1 5 ([nu, oc]), R1, pt (F 13) (.inr (11, [.ref (B 0), .ref (B 1), .ref (B 2), .int (nI (G ++ [(pf er fr9 n, [])]).length)])), grd (B 0) 32 256 (rE1 (G ++ [(pf er fr9 n, [])])), iar (B 1) 32 (rZ (G ++ [(pf er fr9 n, [])])), iar b0 3 ([ad, nu, at9]), R0, pt (F 12) (.inr (11, [.ref (A 0), .ref (A 1), .ref (A 2), .int (nI ((q, [ad, nu, at9]) :: T).length)])), grd (A 0) 16 256 (rE1 ((q, [ad, nu, at9]) :: T)), iar (A 1) 16 (rZ ((q, [ad, nu, at9]) :: T)), pt (F 6) (.inr (12, [.ref sa, .int (nI er.length), .int (nI qt), .int (bI sp), .int (bI ov)])), iar sa 256 er, pt m (.inr (13, moF F (upN (upN w 7 dg) 16 ls9) bg))]) rfl dX15_through_83 rfl (by omega) (by omega) (iw_ap (r := [nu]) (v := oc) rfl (Nat.le_of_ble_eq_true rfl)) rfl (fun h hL => ?_)
    refine e_aload_n 85 dX15_through_84 rfl rfl ?_
    refine e_get 88 (v := (.ref (F 13))) dX15_through_85 rfl fl_X15_48_13 (stars_at _ 12 hL rfl) rfl ?_
    refine e_get 91 dX15_through_88 rfl fl_X15_292_11 (stars_at _ 2 hL rfl) rfl ?_
    refine e_iload 93 dX15_through_91 rfl rfl ?_
    refine v_aaldP 94 (grP_V _ 1 hL rfl hR1) dX15_through_93 rfl (by omega) (by omega) ?_
    refine e_iconst 95 (v := (nI 2)) dX15_through_94 rfl (by decide) ?_
    refine e_iload_n 96 dX15_through_95 rfl rfl ?_
    refine p_iastR 97 hL 0 (r := [nu, oc]) (r' := [nu, oc, co]) (k := 2) (v := co) (L' := [iar b1 5 ([nu, oc, co]), R1, pt (F 13) (.inr (11, [.ref (B 0), .ref (B 1), .ref (B 2), .int (nI (G ++ [(pf er fr9 n, [])]).length)])), grd (B 0) 32 256 (rE1 (G ++ [(pf er fr9 n, [])])), iar (B 1) 32 (rZ (G ++ [(pf er fr9 n, [])])), iar b0 3 ([ad, nu, at9]), R0, pt (F 12) (.inr (11, [.ref (A 0), .ref (A 1), .ref (A 2), .int (nI ((q, [ad, nu, at9]) :: T).length)])), grd (A 0) 16 256 (rE1 ((q, [ad, nu, at9]) :: T)), iar (A 1) 16 (rZ ((q, [ad, nu, at9]) :: T)), pt (F 6) (.inr (12, [.ref sa, .int (nI er.length), .int (nI qt), .int (bI sp), .int (bI ov)])), iar sa 256 er, pt m (.inr (13, moF F (upN (upN w 7 dg) 16 ls9) bg))]) rfl dX15_through_96 rfl (by omega) (by omega) (iw_ap (r := [nu, oc]) (v := co) rfl (Nat.le_of_ble_eq_true rfl)) rfl (fun h hL => ?_)
    refine e_aload_n 98 dX15_through_97 rfl rfl ?_
    refine e_get 101 (v := (.ref (F 13))) dX15_through_98 rfl fl_X15_48_13 (stars_at _ 12 hL rfl) rfl ?_
    refine e_get 104 dX15_through_101 rfl fl_X15_292_11 (stars_at _ 2 hL rfl) rfl ?_
    refine e_iload 106 dX15_through_104 rfl rfl ?_
    refine v_aaldP 107 (grP_V _ 1 hL rfl hR1) dX15_through_106 rfl (by omega) (by omega) ?_
    refine e_iconst 108 (v := (nI 3)) dX15_through_107 rfl (by decide) ?_
    refine e_aload 110 dX15_through_108 rfl rfl ?_
    refine e_iconst 111 (v := (nI 2)) dX15_through_110 rfl (by decide) ?_
    refine v_iald 112 (r := [ad, nu, at9]) (iar_V _ 5 hL rfl) (k := 2) (x := at9) dX15_through_111 rfl (Nat.le_of_ble_eq_true rfl) (by omega) rfl ?_
    refine p_iastR 113 hL 0 (r := [nu, oc, co]) (r' := [nu, oc, co, at9]) (k := 3) (v := at9) (L' := [iar b1 5 ([nu, oc, co, at9]), R1, pt (F 13) (.inr (11, [.ref (B 0), .ref (B 1), .ref (B 2), .int (nI (G ++ [(pf er fr9 n, [])]).length)])), grd (B 0) 32 256 (rE1 (G ++ [(pf er fr9 n, [])])), iar (B 1) 32 (rZ (G ++ [(pf er fr9 n, [])])), iar b0 3 ([ad, nu, at9]), R0, pt (F 12) (.inr (11, [.ref (A 0), .ref (A 1), .ref (A 2), .int (nI ((q, [ad, nu, at9]) :: T).length)])), grd (A 0) 16 256 (rE1 ((q, [ad, nu, at9]) :: T)), iar (A 1) 16 (rZ ((q, [ad, nu, at9]) :: T)), pt (F 6) (.inr (12, [.ref sa, .int (nI er.length), .int (nI qt), .int (bI sp), .int (bI ov)])), iar sa 256 er, pt m (.inr (13, moF F (upN (upN w 7 dg) 16 ls9) bg))]) rfl dX15_through_112 rfl (by omega) (by omega) (iw_ap (r := [nu, oc, co]) (v := at9) rfl (Nat.le_of_ble_eq_true rfl)) rfl (fun h hL => ?_)
    refine e_aload_n 114 dX15_through_113 rfl rfl ?_
    refine e_get 117 (v := (.ref (F 13))) dX15_through_114 rfl fl_X15_48_13 (stars_at _ 12 hL rfl) rfl ?_
    refine e_get 120 dX15_through_117 rfl fl_X15_292_11 (stars_at _ 2 hL rfl) rfl ?_
    refine e_iload 122 dX15_through_120 rfl rfl ?_
    refine v_aaldP 123 (grP_V _ 1 hL rfl hR1) dX15_through_122 rfl (by omega) (by omega) ?_
    refine e_iconst 124 (v := (nI 4)) dX15_through_123 rfl (by decide) ?_
    refine e_aload 126 dX15_through_124 rfl rfl ?_
    refine e_iconst 127 (v := (nI 0)) dX15_through_126 rfl (by decide) ?_
    refine v_iald 128 (r := [ad, nu, at9]) (iar_V _ 5 hL rfl) (k := 0) (x := ad) dX15_through_127 rfl (Nat.le_of_ble_eq_true rfl) (by omega) rfl ?_
    refine p_iastR 129 hL 0 (r := [nu, oc, co, at9]) (r' := [nu, oc, co, at9, ad]) (k := 4) (v := ad) (L' := [iar b1 5 ([nu, oc, co, at9, ad]), R1, pt (F 13) (.inr (11, [.ref (B 0), .ref (B 1), .ref (B 2), .int (nI (G ++ [(pf er fr9 n, [])]).length)])), grd (B 0) 32 256 (rE1 (G ++ [(pf er fr9 n, [])])), iar (B 1) 32 (rZ (G ++ [(pf er fr9 n, [])])), iar b0 3 ([ad, nu, at9]), R0, pt (F 12) (.inr (11, [.ref (A 0), .ref (A 1), .ref (A 2), .int (nI ((q, [ad, nu, at9]) :: T).length)])), grd (A 0) 16 256 (rE1 ((q, [ad, nu, at9]) :: T)), iar (A 1) 16 (rZ ((q, [ad, nu, at9]) :: T)), pt (F 6) (.inr (12, [.ref sa, .int (nI er.length), .int (nI qt), .int (bI sp), .int (bI ov)])), iar sa 256 er, pt m (.inr (13, moF F (upN (upN w 7 dg) 16 ls9) bg))]) rfl dX15_through_128 rfl (by omega) (by omega) (iw_ap (r := [nu, oc, co, at9]) (v := ad) rfl (Nat.le_of_ble_eq_true rfl)) rfl (fun h hL => ?_)
    have hL : stars [grd (B 2) 32 5 (upL (rE2 (G ++ [(pf er fr9 n, [])])) G.length ([nu, oc, co, at9, ad])), pt (F 13) (.inr (11, [.ref (B 0), .ref (B 1), .ref (B 2), .int (nI (G ++ [(pf er fr9 n, [])]).length)])), grd (B 0) 32 256 (rE1 (G ++ [(pf er fr9 n, [])])), iar (B 1) 32 (rZ (G ++ [(pf er fr9 n, [])])), iar b0 3 ([ad, nu, at9]), R0, pt (F 12) (.inr (11, [.ref (A 0), .ref (A 1), .ref (A 2), .int (nI ((q, [ad, nu, at9]) :: T).length)])), grd (A 0) 16 256 (rE1 ((q, [ad, nu, at9]) :: T)), iar (A 1) 16 (rZ ((q, [ad, nu, at9]) :: T)), pt (F 6) (.inr (12, [.ref sa, .int (nI er.length), .int (nI qt), .int (bI sp), .int (bI ov)])), iar sa 256 er, pt m (.inr (13, moF F (upN (upN w 7 dg) 16 ls9) bg))] h := hC1 _ _ _ hL
    have hL : stars [pt (F 13) (.inr (11, [.ref (B 0), .ref (B 1), .ref (B 2), .int (nI (G ++ [(pf er fr9 n, [])]).length)])), grd (B 0) 32 256 (rE1 (G ++ [(pf er fr9 n, [])])), iar (B 1) 32 (rZ (G ++ [(pf er fr9 n, [])])), grd (B 2) 32 5 (upL (rE2 (G ++ [(pf er fr9 n, [])])) G.length ([nu, oc, co, at9, ad])), iar b0 3 ([ad, nu, at9]), R0, pt (F 12) (.inr (11, [.ref (A 0), .ref (A 1), .ref (A 2), .int (nI ((q, [ad, nu, at9]) :: T).length)])), grd (A 0) 16 256 (rE1 ((q, [ad, nu, at9]) :: T)), iar (A 1) 16 (rZ ((q, [ad, nu, at9]) :: T)), pt (F 6) (.inr (12, [.ref sa, .int (nI er.length), .int (nI qt), .int (bI sp), .int (bI ov)])), iar sa 256 er, pt m (.inr (13, moF F (upN (upN w 7 dg) 16 ls9) bg))] h := stars_ixn hL 12 rfl [1, 2, 3, 0, 4, 5, 6, 7, 8, 9, 10, 11] (by decide) rfl
    have hL : stars [rrw (F 13) 32 5 (G ++ [(pf er fr9 n, [nu, oc, co, at9, ad])]), iar b0 3 ([ad, nu, at9]), R0, pt (F 12) (.inr (11, [.ref (A 0), .ref (A 1), .ref (A 2), .int (nI ((q, [ad, nu, at9]) :: T).length)])), grd (A 0) 16 256 (rE1 ((q, [ad, nu, at9]) :: T)), iar (A 1) 16 (rZ ((q, [ad, nu, at9]) :: T)), pt (F 6) (.inr (12, [.ref sa, .int (nI er.length), .int (nI qt), .int (bI sp), .int (bI ov)])), iar sa 256 er, pt m (.inr (13, moF F (upN (upN w 7 dg) 16 ls9) bg))] h := rrw_ad2 hnB hL
    have hL : stars [iar b0 3 ([ad, nu, at9]), R0, rrw (F 13) 32 5 (G ++ [(pf er fr9 n, [nu, oc, co, at9, ad])]), pt (F 12) (.inr (11, [.ref (A 0), .ref (A 1), .ref (A 2), .int (nI ((q, [ad, nu, at9]) :: T).length)])), grd (A 0) 16 256 (rE1 ((q, [ad, nu, at9]) :: T)), iar (A 1) 16 (rZ ((q, [ad, nu, at9]) :: T)), pt (F 6) (.inr (12, [.ref sa, .int (nI er.length), .int (nI qt), .int (bI sp), .int (bI ov)])), iar sa 256 er, pt m (.inr (13, moF F (upN (upN w 7 dg) 16 ls9) bg))] h := stars_ixn hL 9 rfl [1, 2, 0, 3, 4, 5, 6, 7, 8] (by decide) rfl
    have hL : stars [grd (A 2) 16 3 (upL (rE2 ((q, [ad, nu, at9]) :: T)) 0 ([ad, nu, at9])), rrw (F 13) 32 5 (G ++ [(pf er fr9 n, [nu, oc, co, at9, ad])]), pt (F 12) (.inr (11, [.ref (A 0), .ref (A 1), .ref (A 2), .int (nI ((q, [ad, nu, at9]) :: T).length)])), grd (A 0) 16 256 (rE1 ((q, [ad, nu, at9]) :: T)), iar (A 1) 16 (rZ ((q, [ad, nu, at9]) :: T)), pt (F 6) (.inr (12, [.ref sa, .int (nI er.length), .int (nI qt), .int (bI sp), .int (bI ov)])), iar sa 256 er, pt m (.inr (13, moF F (upN (upN w 7 dg) 16 ls9) bg))] h := hC0 _ _ _ hL
    have hL : stars [pt (F 12) (.inr (11, [.ref (A 0), .ref (A 1), .ref (A 2), .int (nI ((q, [ad, nu, at9]) :: T).length)])), grd (A 0) 16 256 (rE1 ((q, [ad, nu, at9]) :: T)), iar (A 1) 16 (rZ ((q, [ad, nu, at9]) :: T)), grd (A 2) 16 3 (upL (rE2 ((q, [ad, nu, at9]) :: T)) 0 ([ad, nu, at9])), rrw (F 13) 32 5 (G ++ [(pf er fr9 n, [nu, oc, co, at9, ad])]), pt (F 6) (.inr (12, [.ref sa, .int (nI er.length), .int (nI qt), .int (bI sp), .int (bI ov)])), iar sa 256 er, pt m (.inr (13, moF F (upN (upN w 7 dg) 16 ls9) bg))] h := stars_ixn hL 8 rfl [2, 3, 4, 0, 1, 5, 6, 7] (by decide) rfl
    have hL : stars [rrw (F 12) 16 3 ((q, [ad, nu, at9]) :: T), rrw (F 13) 32 5 (G ++ [(pf er fr9 n, [nu, oc, co, at9, ad])]), pt (F 6) (.inr (12, [.ref sa, .int (nI er.length), .int (nI qt), .int (bI sp), .int (bI ov)])), iar sa 256 er, pt m (.inr (13, moF F (upN (upN w 7 dg) 16 ls9) bg))] h := rrw_cS hnA rfl hL
    have hL : stars [pt (F 6) (.inr (12, [.ref sa, .int (nI er.length), .int (nI qt), .int (bI sp), .int (bI ov)])), iar sa 256 er, rrw (F 12) 16 3 ((q, [ad, nu, at9]) :: T), rrw (F 13) 32 5 (G ++ [(pf er fr9 n, [nu, oc, co, at9, ad])]), pt m (.inr (13, moF F (upN (upN w 7 dg) 16 ls9) bg))] h := stars_ixn hL 5 rfl [2, 3, 0, 1, 4] (by decide) rfl
    have hL : stars [rst (F 6) er qt sp ov, rrw (F 12) 16 3 ((q, [ad, nu, at9]) :: T), rrw (F 13) 32 5 (G ++ [(pf er fr9 n, [nu, oc, co, at9, ad])]), pt m (.inr (13, moF F (upN (upN w 7 dg) 16 ls9) bg))] h := rst_c hL
    refine e_aload_n 130 dX15_through_129 rfl rfl ?_
    refine e_get 133 (v := (.ref (F 12))) dX15_through_130 rfl fl_X15_44_13 (stars_at _ 3 hL rfl) rfl ?_
    refine p_callV 136 hL [1, 0, 2, 3] 4 rfl (by decide) (L1 := [rrw (F 12) 16 3 ((q, [ad, nu, at9]) :: T)]) (L2 := [rst (F 6) er qt sp ov, rrw (F 13) 32 5 (G ++ [(pf er fr9 n, [nu, oc, co, at9, ad])]), pt m (.inr (13, moF F (upN (upN w 7 dg) 16 ls9) bg))]) rfl rrw_O 1 rfl dX15_through_133 rfl cv_X15_303 (k_X13_goes (by exact Nat.succ_le_succ (Nat.zero_le _)) (by decide)) rfl rfl (Nat.le_of_ble_eq_true rfl) ⟨by decide, by omega, by omega⟩ (fun r1 L1 h q hL => ?_)
    obtain ⟨rfl, rfl⟩ := q
    have hL : stars [rrw (F 12) 16 3 T, rst (F 6) er qt sp ov, rrw (F 13) 32 5 (G ++ [(pf er fr9 n, [nu, oc, co, at9, ad])]), pt m (.inr (13, moF F (upN (upN w 7 dg) 16 ls9) bg))] h := hL
    have hL : stars [rst (F 6) er qt sp ov, rrw (F 12) 16 3 T, rrw (F 13) 32 5 (G ++ [(pf er fr9 n, [nu, oc, co, at9, ad])]), pt m (.inr (13, moF F (upN (upN w 7 dg) 16 ls9) bg))] h := stars_ixn hL 4 rfl [1, 0, 2, 3] (by decide) rfl
    refine e_aload_n 137 dX15_through_136 rfl rfl ?_
    refine e_iconst 138 (v := (nI 0)) dX15_through_137 rfl (by decide) ?_
    refine p_put 141 hL 3 (fs' := moF F (upN (upN (upN w 7 dg) 16 ls9) 7 0) bg) (L' := [rst (F 6) er qt sp ov, rrw (F 12) 16 3 T, rrw (F 13) 32 5 (G ++ [(pf er fr9 n, [nu, oc, co, at9, ad])]), pt m (.inr (13, moF F (upN (upN (upN w 7 dg) 16 ls9) 7 0) bg))]) rfl rfl dX15_through_138 rfl fp_X15_306_13 (Or.inl rfl) (Nat.le_of_ble_eq_true rfl) rfl rfl rfl (fun h hL => ?_)
    exact e_vret dX15_through_141 rfl (by omega) (by omega) (⟨_, ⟨rfl, rfl⟩, by rw [thG, if_neg k20, if_neg k20]; exact (stars_ixn hL 4 rfl [3, 0, 1, 2] (by decide) rfl)⟩)
  · have k20 := j_ne_f (a := G.length) (b := 32) (by omega) (by omega) c20
    refine e_aload_n 24 dX15_through_23 rfl rfl ?_
    refine e_dup 25 dX15_through_24 rfl rfl ?_
    refine e_get 28 (v := (.int (nI ls9))) dX15_through_25 rfl fl_X15_299_13 (stars_at _ 7 hL rfl) rfl ?_
    refine e_iconst 29 (v := (nI 1)) dX15_through_28 rfl (by decide) ?_
    refine e_iadd 30 (v := (nI (ls9 + 1))) dX15_through_29 rfl (nI_add ls9 1) ?_
    refine p_put 33 hL 7 (fs' := moF F (upN (upN (upN w 7 dg) 16 ls9) 16 (ls9 + 1)) bg) (L' := [iar b0 3 ([ad, nu, at9]), R0, pt (F 12) (.inr (11, [.ref (A 0), .ref (A 1), .ref (A 2), .int (nI ((q, [ad, nu, at9]) :: T).length)])), grd (A 0) 16 256 (rE1 ((q, [ad, nu, at9]) :: T)), iar (A 1) 16 (rZ ((q, [ad, nu, at9]) :: T)), pt (F 6) (.inr (12, [.ref sa, .int (nI er.length), .int (nI qt), .int (bI sp), .int (bI ov)])), iar sa 256 er, pt m (.inr (13, moF F (upN (upN (upN w 7 dg) 16 ls9) 16 (ls9 + 1)) bg)), rrw (F 13) 32 5 G]) rfl rfl dX15_through_30 rfl fp_X15_299_13 (Or.inl rfl) (Nat.le_of_ble_eq_true rfl) rfl rfl rfl (fun h hL => ?_)
    refine e_goto 129 dX15_through_33 rfl ?_
    have hL : stars [grd (A 2) 16 3 (upL (rE2 ((q, [ad, nu, at9]) :: T)) 0 ([ad, nu, at9])), pt (F 12) (.inr (11, [.ref (A 0), .ref (A 1), .ref (A 2), .int (nI ((q, [ad, nu, at9]) :: T).length)])), grd (A 0) 16 256 (rE1 ((q, [ad, nu, at9]) :: T)), iar (A 1) 16 (rZ ((q, [ad, nu, at9]) :: T)), pt (F 6) (.inr (12, [.ref sa, .int (nI er.length), .int (nI qt), .int (bI sp), .int (bI ov)])), iar sa 256 er, pt m (.inr (13, moF F (upN (upN (upN w 7 dg) 16 ls9) 16 (ls9 + 1)) bg)), rrw (F 13) 32 5 G] h := hC0 _ _ _ hL
    have hL : stars [pt (F 12) (.inr (11, [.ref (A 0), .ref (A 1), .ref (A 2), .int (nI ((q, [ad, nu, at9]) :: T).length)])), grd (A 0) 16 256 (rE1 ((q, [ad, nu, at9]) :: T)), iar (A 1) 16 (rZ ((q, [ad, nu, at9]) :: T)), grd (A 2) 16 3 (upL (rE2 ((q, [ad, nu, at9]) :: T)) 0 ([ad, nu, at9])), pt (F 6) (.inr (12, [.ref sa, .int (nI er.length), .int (nI qt), .int (bI sp), .int (bI ov)])), iar sa 256 er, pt m (.inr (13, moF F (upN (upN (upN w 7 dg) 16 ls9) 16 (ls9 + 1)) bg)), rrw (F 13) 32 5 G] h := stars_ixn hL 8 rfl [1, 2, 3, 0, 4, 5, 6, 7] (by decide) rfl
    have hL : stars [rrw (F 12) 16 3 ((q, [ad, nu, at9]) :: T), pt (F 6) (.inr (12, [.ref sa, .int (nI er.length), .int (nI qt), .int (bI sp), .int (bI ov)])), iar sa 256 er, pt m (.inr (13, moF F (upN (upN (upN w 7 dg) 16 ls9) 16 (ls9 + 1)) bg)), rrw (F 13) 32 5 G] h := rrw_cS hnA rfl hL
    have hL : stars [pt (F 6) (.inr (12, [.ref sa, .int (nI er.length), .int (nI qt), .int (bI sp), .int (bI ov)])), iar sa 256 er, rrw (F 12) 16 3 ((q, [ad, nu, at9]) :: T), pt m (.inr (13, moF F (upN (upN (upN w 7 dg) 16 ls9) 16 (ls9 + 1)) bg)), rrw (F 13) 32 5 G] h := stars_ixn hL 5 rfl [1, 2, 0, 3, 4] (by decide) rfl
    have hL : stars [rst (F 6) er qt sp ov, rrw (F 12) 16 3 ((q, [ad, nu, at9]) :: T), pt m (.inr (13, moF F (upN (upN (upN w 7 dg) 16 ls9) 16 (ls9 + 1)) bg)), rrw (F 13) 32 5 G] h := rst_c hL
    refine e_aload_n 130 dX15_through_129 rfl rfl ?_
    refine e_get 133 (v := (.ref (F 12))) dX15_through_130 rfl fl_X15_44_13 (stars_at _ 2 hL rfl) rfl ?_
    refine p_callV 136 hL [1, 0, 2, 3] 4 rfl (by decide) (L1 := [rrw (F 12) 16 3 ((q, [ad, nu, at9]) :: T)]) (L2 := [rst (F 6) er qt sp ov, pt m (.inr (13, moF F (upN (upN (upN w 7 dg) 16 ls9) 16 (ls9 + 1)) bg)), rrw (F 13) 32 5 G]) rfl rrw_O 1 rfl dX15_through_133 rfl cv_X15_303 (k_X13_goes (by exact Nat.succ_le_succ (Nat.zero_le _)) (by decide)) rfl rfl (Nat.le_of_ble_eq_true rfl) ⟨by decide, by omega, by omega⟩ (fun r1 L1 h q hL => ?_)
    obtain ⟨rfl, rfl⟩ := q
    have hL : stars [rrw (F 12) 16 3 T, rst (F 6) er qt sp ov, pt m (.inr (13, moF F (upN (upN (upN w 7 dg) 16 ls9) 16 (ls9 + 1)) bg)), rrw (F 13) 32 5 G] h := hL
    have hL : stars [rst (F 6) er qt sp ov, rrw (F 12) 16 3 T, pt m (.inr (13, moF F (upN (upN (upN w 7 dg) 16 ls9) 16 (ls9 + 1)) bg)), rrw (F 13) 32 5 G] h := stars_ixn hL 4 rfl [1, 0, 2, 3] (by decide) rfl
    refine e_aload_n 137 dX15_through_136 rfl rfl ?_
    refine e_iconst 138 (v := (nI 0)) dX15_through_137 rfl (by decide) ?_
    refine p_put 141 hL 2 (fs' := moF F (upN (upN (upN (upN w 7 dg) 16 ls9) 16 (ls9 + 1)) 7 0) bg) (L' := [rst (F 6) er qt sp ov, rrw (F 12) 16 3 T, pt m (.inr (13, moF F (upN (upN (upN (upN w 7 dg) 16 ls9) 16 (ls9 + 1)) 7 0) bg)), rrw (F 13) 32 5 G]) rfl rfl dX15_through_138 rfl fp_X15_306_13 (Or.inl rfl) (Nat.le_of_ble_eq_true rfl) rfl rfl rfl (fun h hL => ?_)
    exact e_vret dX15_through_141 rfl (by omega) (by omega) (⟨_, ⟨rfl, rfl⟩, by rw [thG, if_pos k20, if_pos k20]; exact (stars_ixn hL 4 rfl [2, 0, 1, 3] (by decide) rfl)⟩)
set_option maxRecDepth 20000 in
set_option maxHeartbeats 2000000 in
theorem k_X15_fails {m why dg ls9 ad nu at9 tm qt : Nat} {F w : Nat → Nat} {bg sp ov : Bool} {T G : List EN} {q er : List Nat} (hG : G.length ≤ 32) (ha : at9 < 2 ^ 31) (hm : tm < 2 ^ 31) : CA mX15_fails [.ref m, .int (nI why)] [pt m (.inr (13, moF F (upN (upN (upN w 9 tm) 7 dg) 16 ls9) bg)), rst (F 6) er qt sp ov, rrw (F 12) 16 3 ((q, [ad, nu, at9]) :: T), rrw (F 13) 32 5 G] (fun x9 K => x9 = none ∧ K = (if tm ≤ at9 then [rmo m F (upN (upN (upN w 9 tm) 7 0) 16 (if G.length = 32 then ls9 + 1 else ls9)) bg, rst (F 6) er qt sp ov, rrw (F 12) 16 3 T, rrw (F 13) 32 5 (thG G (pf er 0 0, [nu, 2, why, at9, ad]))] else [rmo m F (upN (upN (upN w 9 tm) 7 0) 16 ls9) bg, rst (F 6) er qt sp ov, rrw (F 12) 16 3 ((q, [ad, nu, at9]) :: T), rrw (F 13) 32 5 G])) 2 80 0 0 := by
  refine CA.mk 0 (ls := [some (.ref m), some (.int (nI why))]) rfl rfl (Nat.le_of_ble_eq_true rfl) rfl (fun h hL => ?_)
  refine e_aload_n 1 dX15_fails_0 rfl rfl ?_
  refine e_iconst 2 (v := (nI 0)) dX15_fails_1 rfl (by decide) ?_
  refine p_put 5 hL 0 (fs' := moF F (upN (upN (upN (upN w 9 tm) 7 dg) 16 ls9) 7 0) bg) (L' := [pt m (.inr (13, moF F (upN (upN (upN (upN w 9 tm) 7 dg) 16 ls9) 7 0) bg)), rst (F 6) er qt sp ov, rrw (F 12) 16 3 ((q, [ad, nu, at9]) :: T), rrw (F 13) 32 5 G]) rfl rfl dX15_fails_2 rfl fp_X15_306_13 (Or.inl rfl) (Nat.le_of_ble_eq_true rfl) rfl rfl rfl (fun h hL => ?_)
  refine e_aload_n 6 dX15_fails_5 rfl rfl ?_
  refine e_get 9 (v := (.ref (F 12))) dX15_fails_6 rfl fl_X15_44_13 (stars_at _ 0 hL rfl) rfl ?_
  obtain ⟨A9, u9_0, u9_1, u9_2, u9_3, u9_4⟩ := rrw_V _ 2 hL rfl
  refine e_get 12 (v := (.ref (A9 2))) dX15_fails_9 rfl fl_X15_292_11 u9_0 rfl ?_
  refine e_iconst 13 (v := (nI 0)) dX15_fails_12 rfl (by decide) ?_
  refine v_aald 14 u9_3 (k := 0) dX15_fails_13 rfl (by omega) (by omega) (fun b13 y13 => ?_)
  refine e_iconst 15 (v := (nI 2)) dX15_fails_14 rfl (by decide) ?_
  refine v_iald 16 (r := (rE2 ((q, [ad, nu, at9]) :: T) 0)) y13 (k := 2) (x := at9) dX15_fails_15 rfl (Nat.le_of_ble_eq_true rfl) (by omega) rfl ?_
  refine e_aload_n 17 dX15_fails_16 rfl rfl ?_
  refine e_get 20 (v := (.int (nI tm))) dX15_fails_17 rfl fl_X15_29_13 (stars_at _ 0 hL rfl) rfl ?_
  refine e_icmp_lt 31 23 dX15_fails_20 rfl rfl (fun c20 => ?_) (fun c20 => ?_)
  · have k20 := j_lt_t (a := at9) (b := tm) (by omega) (by omega) c20
    exact e_vret dX15_fails_31 rfl (by omega) (by omega) (⟨_, ⟨rfl, rfl⟩, by rw [if_neg (by omega)]; exact hL⟩)
  · have k20 := j_lt_f (a := at9) (b := tm) (by omega) (by omega) c20
    refine e_aload_n 24 dX15_fails_23 rfl rfl ?_
    refine e_iconst 25 (v := (nI 2)) dX15_fails_24 rfl (by decide) ?_
    refine e_iload_n 26 dX15_fails_25 rfl rfl ?_
    refine e_iconst 27 (v := (nI 0)) dX15_fails_26 rfl (by decide) ?_
    refine e_iconst 28 (v := (nI 0)) dX15_fails_27 rfl (by decide) ?_
    have hL : stars [pt m (.inr (13, moF F (upN (upN (upN w 9 tm) 7 0) 16 ls9) bg)), rst (F 6) er qt sp ov, rrw (F 12) 16 3 ((q, [ad, nu, at9]) :: T), rrw (F 13) 32 5 G] h := hL
    refine p_callV 31 hL [0, 1, 2, 3] 4 rfl (by decide) (L1 := [pt m (.inr (13, moF F (upN (upN (upN w 9 tm) 7 0) 16 ls9) bg)), rst (F 6) er qt sp ov, rrw (F 12) 16 3 ((q, [ad, nu, at9]) :: T), rrw (F 13) 32 5 G]) (L2 := []) rfl isO_pt 0 rfl dX15_fails_28 rfl cv_X15_309 (k_X15_through (w := upN w 9 tm) (dg := 0) (ls9 := ls9) (oc := 2) (co := why) (fr9 := 0) (n := 0) hG (by decide) (Nat.zero_le _)) rfl rfl (Nat.le_of_ble_eq_true rfl) ⟨by decide, by omega, by omega⟩ (fun r1 L1 h q hL => ?_)
    obtain ⟨rfl, rfl⟩ := q
    have hL : stars [rmo m F (upN (upN (upN w 9 tm) 7 0) 16 (if G.length = 32 then ls9 + 1 else ls9)) bg, rst (F 6) er qt sp ov, rrw (F 12) 16 3 T, rrw (F 13) 32 5 (thG G (pf er 0 0, [nu, 2, why, at9, ad]))] h := hL
    exact e_vret dX15_fails_31 rfl (by omega) (by omega) (⟨_, ⟨rfl, rfl⟩, by rw [if_pos (by omega)]; exact hL⟩)
