/-! Master's small methods -/
theorem lst_part {α : Type} {f : α → sA} {X : List α} {k : Nat} {x : α} (L : List sA) (i : Nat) {h : eH} (hL : stars L h) (hi : L[i]? = some (lst f X)) (hx : X[k]? = some x) : ∃ h1, f x h1 ∧ ∀ (b : Nat) (e : va_E), h1 b = some e → h b = some e := by
  obtain ⟨h1, p1, e1⟩ := stars_part L i hL hi
  obtain ⟨h2, p2, e2⟩ := stars_part (X.map f) k (P := f x) p1 (by rw [List.getElem?_map, hx]; rfl)
  exact ⟨h2, p2, fun b e z => e1 b e (e2 b e z)⟩
theorem job_rd (L : List sA) (i : Nat) {X : List (Option JB)} {k : Nat} {j : JB} {h : eH} (hL : stars L h) (hi : L[i]? = some (lst slt X)) (hx : X[k]? = some (some j)) : ∃ a, h j.1 = some (.inr (2, [.ref a, .int (nI (j.2.2 1)), .int (nI (j.2.2 2)), .int (nI (j.2.2 3)), .int (nI (j.2.2 4)), .int (nI (j.2.2 5))])) := by
  obtain ⟨h1, p, e⟩ := lst_part L i hL hi hx
  obtain ⟨a, p⟩ := p
  exact ⟨a, e _ _ (stars_at _ 0 p rfl)⟩
set_option maxRecDepth 20000 in
set_option maxHeartbeats 2000000 in
theorem k_X3_firstRequest0 {m h1 n1 h2 n2 n3 : Nat} {A v : Nat → Nat} {g : Nat → Option Nat} (hn : n1 = 0) : CA mX3_firstRequest [.ref m] [pt m (.inr (3, [.ref (A 0), .int (nI (v 1)), .int (nI (v 2)), .int (nI (v 3)), .int (nI (v 4)), .int (nI (v 5)), .ref (A 6), .int (nI h1), .int (nI n1), .int (nI (v 9)), .ref (A 10), .int (nI h2), .int (nI n2), .int (nI (v 13)), .int (nI (v 14)), .ref (A 15), .int (nI n3)])), pt (A 6) (.inl (4, 16, .inr (.inr (.inr (.inr g)))))] (fun r K => r = some .null ∧ K = [pt m (.inr (3, [.ref (A 0), .int (nI (v 1)), .int (nI (v 2)), .int (nI (v 3)), .int (nI (v 4)), .int (nI (v 5)), .ref (A 6), .int (nI h1), .int (nI n1), .int (nI (v 9)), .ref (A 10), .int (nI h2), .int (nI n2), .int (nI (v 13)), .int (nI (v 14)), .ref (A 15), .int (nI n3)])), pt (A 6) (.inl (4, 16, .inr (.inr (.inr (.inr g)))))]) 0 0 0 0 := by
  refine CA.mk 0 (ls := [some (.ref m)]) rfl rfl (Nat.le_of_ble_eq_true rfl) rfl (fun h hL => ?_)
  refine e_aload_n 1 dX3_firstRequest_0 rfl rfl ?_
  refine e_get 4 dX3_firstRequest_1 rfl fl_X3_46_3 (stars_at _ 0 hL rfl) rfl ?_
  refine e_if_le 28 7 dX3_firstRequest_4 rfl rfl (fun c4 => ?_) (fun c4 => absurd c4 (by rw [hn]; decide))
  refine e_null 29 dX3_firstRequest_28 rfl ?_
  exact e_aret dX3_firstRequest_29 rfl (Or.inl rfl) (by omega) (by omega) (⟨_, ⟨rfl, rfl⟩, hL⟩)
set_option maxRecDepth 20000 in
set_option maxHeartbeats 2000000 in
theorem k_X3_firstRequest1 {m h1 n1 h2 n2 n3 : Nat} {A v : Nat → Nat} {g : Nat → Option Nat} {a : Nat} (hn : 0 < n1) (hb : n1 ≤ 100) (hh : h1 < 16) (hg : g h1 = some a) : CA mX3_firstRequest [.ref m] [pt m (.inr (3, [.ref (A 0), .int (nI (v 1)), .int (nI (v 2)), .int (nI (v 3)), .int (nI (v 4)), .int (nI (v 5)), .ref (A 6), .int (nI h1), .int (nI n1), .int (nI (v 9)), .ref (A 10), .int (nI h2), .int (nI n2), .int (nI (v 13)), .int (nI (v 14)), .ref (A 15), .int (nI n3)])), pt (A 6) (.inl (4, 16, .inr (.inr (.inr (.inr g)))))] (fun r K => r = some (.ref a) ∧ K = [pt m (.inr (3, [.ref (A 0), .int (nI (v 1)), .int (nI (v 2)), .int (nI (v 3)), .int (nI (v 4)), .int (nI (v 5)), .ref (A 6), .int (nI h1), .int (nI n1), .int (nI (v 9)), .ref (A 10), .int (nI h2), .int (nI n2), .int (nI (v 13)), .int (nI (v 14)), .ref (A 15), .int (nI n3)])), pt (A 6) (.inl (4, 16, .inr (.inr (.inr (.inr g)))))]) 0 0 0 0 := by
  refine CA.mk 0 (ls := [some (.ref m)]) rfl rfl (Nat.le_of_ble_eq_true rfl) rfl (fun h hL => ?_)
  refine e_aload_n 1 dX3_firstRequest_0 rfl rfl ?_
  refine e_get 4 dX3_firstRequest_1 rfl fl_X3_46_3 (stars_at _ 0 hL rfl) rfl ?_
  refine e_if_le 28 7 dX3_firstRequest_4 rfl rfl (fun c4 => absurd c4 (nI_nle (by omega) (by omega))) (fun c4 => ?_)
  refine e_aload_n 8 dX3_firstRequest_7 rfl rfl ?_
  refine e_get 11 dX3_firstRequest_8 rfl fl_X3_49_3 (stars_at _ 0 hL rfl) rfl ?_
  refine e_bipush 13 (v := (nI 16)) dX3_firstRequest_11 rfl (by decide) ?_
  refine e_icmp_ge 28 16 dX3_firstRequest_13 rfl rfl (fun c13 => absurd c13 (fun z => absurd (j_ge_t (by omega) (by omega) z) (by omega))) (fun c13 => ?_)
  refine e_aload_n 17 dX3_firstRequest_16 rfl rfl ?_
  refine e_get 20 dX3_firstRequest_17 rfl fl_X3_33_3 (stars_at _ 0 hL rfl) rfl ?_
  refine e_aload_n 21 dX3_firstRequest_20 rfl rfl ?_
  refine e_get 24 dX3_firstRequest_21 rfl fl_X3_49_3 (stars_at _ 0 hL rfl) rfl ?_
  refine e_aald 25 (v := .ref a) dX3_firstRequest_24 rfl (stars_at _ 1 hL rfl) rfl (Or.inl ⟨_, rfl⟩) (vp_in_nI (by omega) (by omega)) (by rw [nI_clamp (by omega), hg]; rfl) ?_
  refine e_goto 29 dX3_firstRequest_25 rfl ?_
  exact e_aret dX3_firstRequest_29 rfl (Or.inr ⟨_, rfl⟩) (by omega) (by omega) (⟨_, ⟨rfl, rfl⟩, hL⟩)
set_option maxRecDepth 20000 in
set_option maxHeartbeats 2000000 in
theorem k_X3_firstResult0 {m h1 n1 h2 n2 n3 : Nat} {A v : Nat → Nat} {g : Nat → Option Nat} (hn : n2 = 0) : CA mX3_firstResult [.ref m] [pt m (.inr (3, [.ref (A 0), .int (nI (v 1)), .int (nI (v 2)), .int (nI (v 3)), .int (nI (v 4)), .int (nI (v 5)), .ref (A 6), .int (nI h1), .int (nI n1), .int (nI (v 9)), .ref (A 10), .int (nI h2), .int (nI n2), .int (nI (v 13)), .int (nI (v 14)), .ref (A 15), .int (nI n3)])), pt (A 10) (.inl (4, 32, .inr (.inr (.inr (.inr g)))))] (fun r K => r = some .null ∧ K = [pt m (.inr (3, [.ref (A 0), .int (nI (v 1)), .int (nI (v 2)), .int (nI (v 3)), .int (nI (v 4)), .int (nI (v 5)), .ref (A 6), .int (nI h1), .int (nI n1), .int (nI (v 9)), .ref (A 10), .int (nI h2), .int (nI n2), .int (nI (v 13)), .int (nI (v 14)), .ref (A 15), .int (nI n3)])), pt (A 10) (.inl (4, 32, .inr (.inr (.inr (.inr g)))))]) 0 0 0 0 := by
  refine CA.mk 0 (ls := [some (.ref m)]) rfl rfl (Nat.le_of_ble_eq_true rfl) rfl (fun h hL => ?_)
  refine e_aload_n 1 dX3_firstResult_0 rfl rfl ?_
  refine e_get 4 dX3_firstResult_1 rfl fl_X3_52_3 (stars_at _ 0 hL rfl) rfl ?_
  refine e_if_le 28 7 dX3_firstResult_4 rfl rfl (fun c4 => ?_) (fun c4 => absurd c4 (by rw [hn]; decide))
  refine e_null 29 dX3_firstResult_28 rfl ?_
  exact e_aret dX3_firstResult_29 rfl (Or.inl rfl) (by omega) (by omega) (⟨_, ⟨rfl, rfl⟩, hL⟩)
set_option maxRecDepth 20000 in
set_option maxHeartbeats 2000000 in
theorem k_X3_firstResult1 {m h1 n1 h2 n2 n3 : Nat} {A v : Nat → Nat} {g : Nat → Option Nat} {a : Nat} (hn : 0 < n2) (hb : n2 ≤ 100) (hh : h2 < 32) (hg : g h2 = some a) : CA mX3_firstResult [.ref m] [pt m (.inr (3, [.ref (A 0), .int (nI (v 1)), .int (nI (v 2)), .int (nI (v 3)), .int (nI (v 4)), .int (nI (v 5)), .ref (A 6), .int (nI h1), .int (nI n1), .int (nI (v 9)), .ref (A 10), .int (nI h2), .int (nI n2), .int (nI (v 13)), .int (nI (v 14)), .ref (A 15), .int (nI n3)])), pt (A 10) (.inl (4, 32, .inr (.inr (.inr (.inr g)))))] (fun r K => r = some (.ref a) ∧ K = [pt m (.inr (3, [.ref (A 0), .int (nI (v 1)), .int (nI (v 2)), .int (nI (v 3)), .int (nI (v 4)), .int (nI (v 5)), .ref (A 6), .int (nI h1), .int (nI n1), .int (nI (v 9)), .ref (A 10), .int (nI h2), .int (nI n2), .int (nI (v 13)), .int (nI (v 14)), .ref (A 15), .int (nI n3)])), pt (A 10) (.inl (4, 32, .inr (.inr (.inr (.inr g)))))]) 0 0 0 0 := by
  refine CA.mk 0 (ls := [some (.ref m)]) rfl rfl (Nat.le_of_ble_eq_true rfl) rfl (fun h hL => ?_)
  refine e_aload_n 1 dX3_firstResult_0 rfl rfl ?_
  refine e_get 4 dX3_firstResult_1 rfl fl_X3_52_3 (stars_at _ 0 hL rfl) rfl ?_
  refine e_if_le 28 7 dX3_firstResult_4 rfl rfl (fun c4 => absurd c4 (nI_nle (by omega) (by omega))) (fun c4 => ?_)
  refine e_aload_n 8 dX3_firstResult_7 rfl rfl ?_
  refine e_get 11 dX3_firstResult_8 rfl fl_X3_55_3 (stars_at _ 0 hL rfl) rfl ?_
  refine e_bipush 13 (v := (nI 32)) dX3_firstResult_11 rfl (by decide) ?_
  refine e_icmp_ge 28 16 dX3_firstResult_13 rfl rfl (fun c13 => absurd c13 (fun z => absurd (j_ge_t (by omega) (by omega) z) (by omega))) (fun c13 => ?_)
  refine e_aload_n 17 dX3_firstResult_16 rfl rfl ?_
  refine e_get 20 dX3_firstResult_17 rfl fl_X3_37_3 (stars_at _ 0 hL rfl) rfl ?_
  refine e_aload_n 21 dX3_firstResult_20 rfl rfl ?_
  refine e_get 24 dX3_firstResult_21 rfl fl_X3_55_3 (stars_at _ 0 hL rfl) rfl ?_
  refine e_aald 25 (v := .ref a) dX3_firstResult_24 rfl (stars_at _ 1 hL rfl) rfl (Or.inl ⟨_, rfl⟩) (vp_in_nI (by omega) (by omega)) (by rw [nI_clamp (by omega), hg]; rfl) ?_
  refine e_goto 29 dX3_firstResult_25 rfl ?_
  exact e_aret dX3_firstResult_29 rfl (Or.inr ⟨_, rfl⟩) (by omega) (by omega) (⟨_, ⟨rfl, rfl⟩, hL⟩)
set_option maxRecDepth 20000 in
set_option maxHeartbeats 2000000 in
theorem k_X3_dropResult0 {m h1 n1 h2 n2 n3 : Nat} {A v : Nat → Nat} (hn : n2 = 0) : CA mX3_dropResult [.ref m] [pt m (.inr (3, [.ref (A 0), .int (nI (v 1)), .int (nI (v 2)), .int (nI (v 3)), .int (nI (v 4)), .int (nI (v 5)), .ref (A 6), .int (nI h1), .int (nI n1), .int (nI (v 9)), .ref (A 10), .int (nI h2), .int (nI n2), .int (nI (v 13)), .int (nI (v 14)), .ref (A 15), .int (nI n3)]))] (fun r K => r = some (.int (nI 0)) ∧ K = [pt m (.inr (3, [.ref (A 0), .int (nI (v 1)), .int (nI (v 2)), .int (nI (v 3)), .int (nI (v 4)), .int (nI (v 5)), .ref (A 6), .int (nI h1), .int (nI n1), .int (nI (v 9)), .ref (A 10), .int (nI h2), .int (nI n2), .int (nI (v 13)), .int (nI (v 14)), .ref (A 15), .int (nI n3)]))]) 0 0 0 0 := by
  refine CA.mk 0 (ls := [some (.ref m)]) rfl rfl (Nat.le_of_ble_eq_true rfl) rfl (fun h hL => ?_)
  refine e_aload_n 1 dX3_dropResult_0 rfl rfl ?_
  refine e_get 4 dX3_dropResult_1 rfl fl_X3_52_3 (stars_at _ 0 hL rfl) rfl ?_
  refine e_if_ne 9 7 dX3_dropResult_4 rfl rfl (fun c4 => absurd c4 (by rw [hn]; decide)) (fun c4 => ?_)
  refine e_iconst 8 (v := (nI 0)) dX3_dropResult_7 rfl (by decide) ?_
  exact e_zret dX3_dropResult_8 rfl (Or.inl (by decide)) (by omega) (by omega) (⟨_, ⟨rfl, rfl⟩, hL⟩)
set_option maxRecDepth 20000 in
set_option maxHeartbeats 2000000 in
theorem k_X3_dropResult1 {m h1 n1 h2 n2 n3 : Nat} {A v : Nat → Nat} (hn : 0 < n2) (hb : n2 ≤ 100) (hh : h2 < 32) : CA mX3_dropResult [.ref m] [pt m (.inr (3, [.ref (A 0), .int (nI (v 1)), .int (nI (v 2)), .int (nI (v 3)), .int (nI (v 4)), .int (nI (v 5)), .ref (A 6), .int (nI h1), .int (nI n1), .int (nI (v 9)), .ref (A 10), .int (nI h2), .int (nI n2), .int (nI (v 13)), .int (nI (v 14)), .ref (A 15), .int (nI n3)]))] (fun r K => r = some (.int (nI 1)) ∧ K = [pt m (.inr (3, [.ref (A 0), .int (nI (v 1)), .int (nI (v 2)), .int (nI (v 3)), .int (nI (v 4)), .int (nI (v 5)), .ref (A 6), .int (nI h1), .int (nI n1), .int (nI (v 9)), .ref (A 10), .int (nI ((h2 + 1) % 32)), .int (nI (n2 - 1)), .int (nI (v 13)), .int (nI (v 14)), .ref (A 15), .int (nI n3)]))]) 0 0 0 0 := by
  refine CA.mk 0 (ls := [some (.ref m)]) rfl rfl (Nat.le_of_ble_eq_true rfl) rfl (fun h hL => ?_)
  refine e_aload_n 1 dX3_dropResult_0 rfl rfl ?_
  refine e_get 4 dX3_dropResult_1 rfl fl_X3_52_3 (stars_at _ 0 hL rfl) rfl ?_
  refine e_if_ne 9 7 dX3_dropResult_4 rfl rfl (fun c4 => ?_) (fun c4 => absurd c4 (fun z => absurd (j_ne0_f (by omega) z) (by omega)))
  refine e_aload_n 10 dX3_dropResult_9 rfl rfl ?_
  refine e_aload_n 11 dX3_dropResult_10 rfl rfl ?_
  refine e_get 14 dX3_dropResult_11 rfl fl_X3_55_3 (stars_at _ 0 hL rfl) rfl ?_
  refine e_iconst 15 (v := (nI 1)) dX3_dropResult_14 rfl (by decide) ?_
  refine e_iadd 16 (v := (nI (h2 + 1))) dX3_dropResult_15 rfl (nI_add h2 1) ?_
  refine e_bipush 18 (v := (nI 32)) dX3_dropResult_16 rfl (by decide) ?_
  refine e_irem 19 (v := (nI ((h2 + 1) % 32))) dX3_dropResult_18 rfl (by decide) (pk_rem (by omega) (by decide) (by decide)) ?_
  refine p_put 22 hL 0 (fs' := [.ref (A 0), .int (nI (v 1)), .int (nI (v 2)), .int (nI (v 3)), .int (nI (v 4)), .int (nI (v 5)), .ref (A 6), .int (nI h1), .int (nI n1), .int (nI (v 9)), .ref (A 10), .int (nI ((h2 + 1) % 32)), .int (nI n2), .int (nI (v 13)), .int (nI (v 14)), .ref (A 15), .int (nI n3)]) (L' := [pt m (.inr (3, [.ref (A 0), .int (nI (v 1)), .int (nI (v 2)), .int (nI (v 3)), .int (nI (v 4)), .int (nI (v 5)), .ref (A 6), .int (nI h1), .int (nI n1), .int (nI (v 9)), .ref (A 10), .int (nI ((h2 + 1) % 32)), .int (nI n2), .int (nI (v 13)), .int (nI (v 14)), .ref (A 15), .int (nI n3)]))]) rfl rfl dX3_dropResult_19 rfl fp_X3_55_3 (Or.inl rfl) (Nat.le_of_ble_eq_true rfl) rfl rfl rfl (fun h hL => ?_)
  refine e_aload_n 23 dX3_dropResult_22 rfl rfl ?_
  refine e_dup 24 dX3_dropResult_23 rfl rfl ?_
  refine e_get 27 dX3_dropResult_24 rfl fl_X3_52_3 (stars_at _ 0 hL rfl) rfl ?_
  refine e_iconst 28 (v := (nI 1)) dX3_dropResult_27 rfl (by decide) ?_
  refine e_isub 29 (v := (nI (n2 - 1))) dX3_dropResult_28 rfl (pk_sub (by omega)) ?_
  refine p_put 32 hL 0 (fs' := [.ref (A 0), .int (nI (v 1)), .int (nI (v 2)), .int (nI (v 3)), .int (nI (v 4)), .int (nI (v 5)), .ref (A 6), .int (nI h1), .int (nI n1), .int (nI (v 9)), .ref (A 10), .int (nI ((h2 + 1) % 32)), .int (nI (n2 - 1)), .int (nI (v 13)), .int (nI (v 14)), .ref (A 15), .int (nI n3)]) (L' := [pt m (.inr (3, [.ref (A 0), .int (nI (v 1)), .int (nI (v 2)), .int (nI (v 3)), .int (nI (v 4)), .int (nI (v 5)), .ref (A 6), .int (nI h1), .int (nI n1), .int (nI (v 9)), .ref (A 10), .int (nI ((h2 + 1) % 32)), .int (nI (n2 - 1)), .int (nI (v 13)), .int (nI (v 14)), .ref (A 15), .int (nI n3)]))]) rfl rfl dX3_dropResult_29 rfl fp_X3_52_3 (Or.inl rfl) (Nat.le_of_ble_eq_true rfl) rfl rfl rfl (fun h hL => ?_)
  refine e_iconst 33 (v := (nI 1)) dX3_dropResult_32 rfl (by decide) ?_
  exact e_zret dX3_dropResult_33 rfl (Or.inr (by decide)) (by omega) (by omega) (⟨_, ⟨rfl, rfl⟩, hL⟩)
set_option maxRecDepth 20000 in
set_option maxHeartbeats 2000000 in
theorem k_X3_startWaiting {m h1 n1 h2 n2 n3 : Nat} {A v : Nat → Nat} : CA mX3_startWaiting [.ref m] [pt m (.inr (3, [.ref (A 0), .int (nI (v 1)), .int (nI (v 2)), .int (nI (v 3)), .int (nI (v 4)), .int (nI (v 5)), .ref (A 6), .int (nI h1), .int (nI n1), .int (nI (v 9)), .ref (A 10), .int (nI h2), .int (nI n2), .int (nI (v 13)), .int (nI (v 14)), .ref (A 15), .int (nI n3)]))] (fun r K => r = none ∧ K = [pt m (.inr (3, [.ref (A 0), .int (nI 2), .int (nI 0), .int (nI (v 3)), .int (nI (v 4)), .int (nI (v 5)), .ref (A 6), .int (nI h1), .int (nI n1), .int (nI (v 9)), .ref (A 10), .int (nI h2), .int (nI n2), .int (nI (v 13)), .int (nI (v 14)), .ref (A 15), .int (nI n3)]))]) 0 0 0 0 := by
  refine CA.mk 0 (ls := [some (.ref m)]) rfl rfl (Nat.le_of_ble_eq_true rfl) rfl (fun h hL => ?_)
  refine e_aload_n 1 dX3_startWaiting_0 rfl rfl ?_
  refine e_iconst 2 (v := (nI 2)) dX3_startWaiting_1 rfl (by decide) ?_
  refine p_put 5 hL 0 (fs' := [.ref (A 0), .int (nI 2), .int (nI (v 2)), .int (nI (v 3)), .int (nI (v 4)), .int (nI (v 5)), .ref (A 6), .int (nI h1), .int (nI n1), .int (nI (v 9)), .ref (A 10), .int (nI h2), .int (nI n2), .int (nI (v 13)), .int (nI (v 14)), .ref (A 15), .int (nI n3)]) (L' := [pt m (.inr (3, [.ref (A 0), .int (nI 2), .int (nI (v 2)), .int (nI (v 3)), .int (nI (v 4)), .int (nI (v 5)), .ref (A 6), .int (nI h1), .int (nI n1), .int (nI (v 9)), .ref (A 10), .int (nI h2), .int (nI n2), .int (nI (v 13)), .int (nI (v 14)), .ref (A 15), .int (nI n3)]))]) rfl rfl dX3_startWaiting_2 rfl fp_X3_18_3 (Or.inl rfl) (Nat.le_of_ble_eq_true rfl) rfl rfl rfl (fun h hL => ?_)
  refine e_aload_n 6 dX3_startWaiting_5 rfl rfl ?_
  refine e_iconst 7 (v := (nI 0)) dX3_startWaiting_6 rfl (by decide) ?_
  refine p_put 10 hL 0 (fs' := [.ref (A 0), .int (nI 2), .int (nI 0), .int (nI (v 3)), .int (nI (v 4)), .int (nI (v 5)), .ref (A 6), .int (nI h1), .int (nI n1), .int (nI (v 9)), .ref (A 10), .int (nI h2), .int (nI n2), .int (nI (v 13)), .int (nI (v 14)), .ref (A 15), .int (nI n3)]) (L' := [pt m (.inr (3, [.ref (A 0), .int (nI 2), .int (nI 0), .int (nI (v 3)), .int (nI (v 4)), .int (nI (v 5)), .ref (A 6), .int (nI h1), .int (nI n1), .int (nI (v 9)), .ref (A 10), .int (nI h2), .int (nI n2), .int (nI (v 13)), .int (nI (v 14)), .ref (A 15), .int (nI n3)]))]) rfl rfl dX3_startWaiting_7 rfl fp_X3_109_3 (Or.inl rfl) (Nat.le_of_ble_eq_true rfl) rfl rfl rfl (fun h hL => ?_)
  exact e_vret dX3_startWaiting_10 rfl (by omega) (by omega) (⟨_, ⟨rfl, rfl⟩, hL⟩)
theorem inR_s {RQ : List RQE} {i : Nat} {e : RQE} {x : Option Nat} (h : RQ[i]? = some e) : inR (RQ.take (i + 1)) x = (inR (RQ.take i) x || decide (some e.2.1 = x)) := by
  obtain ⟨hi, rfl⟩ := List.getElem?_eq_some_iff.mp h
  rw [inR, List.take_succ_eq_append_getElem hi, List.any_append]
  simp [inR]
theorem inR_t {RQ : List RQE} {i : Nat} {e : RQE} {x : Option Nat} (h : RQ[i]? = some e) (hx : some e.2.1 = x) : inR RQ x = true := by
  rw [inR, List.any_eq_true]
  exact ⟨e, List.mem_of_getElem? h, by simpa using hx⟩
set_option maxRecDepth 20000 in
set_option maxHeartbeats 2000000 in
theorem l_X3_isInRow {m h1 h2 n2 n3 : Nat} {A v : Nat → Nat} {L1 : List (Option JB)} {RQ : List RQE} (hr : ring 16 qd L1 h1 RQ) (hb : ∀ e ∈ RQ, e.2.1 < 100000000) {x : Option Nat} (hx : ∀ k, x = some k → k < 100000000) {f0 l0 : Nat} : ∀ (n : Nat) (i : Nat) (h : eH), RQ.length - i < n → i ≤ RQ.length → inR (RQ.take i) x = false → stars [pt m (.inr (3, [.ref (A 0), .int (nI (v 1)), .int (nI (v 2)), .int (nI (v 3)), .int (nI (v 4)), .int (nI (v 5)), .ref (A 6), .int (nI h1), .int (nI RQ.length), .int (nI (v 9)), .ref (A 10), .int (nI h2), .int (nI n2), .int (nI (v 13)), .int (nI (v 14)), .ref (A 15), .int (nI n3)])), pt (A 6) (.inl (4, 16, .inr (.inr (.inr (.inr (adJ L1)))))), lst slt L1] h → EE mX3_isInRow f0 l0 0 0 (fun r h' => ∃ K, (r = some (.int (bI (inR RQ x))) ∧ K = [pt m (.inr (3, [.ref (A 0), .int (nI (v 1)), .int (nI (v 2)), .int (nI (v 3)), .int (nI (v 4)), .int (nI (v 5)), .ref (A 6), .int (nI h1), .int (nI RQ.length), .int (nI (v 9)), .ref (A 10), .int (nI h2), .int (nI n2), .int (nI (v 13)), .int (nI (v 14)), .ref (A 15), .int (nI n3)])), pt (A 6) (.inl (4, 16, .inr (.inr (.inr (.inr (adJ L1)))))), lst slt L1]) ∧ stars K h') 2 [some (.ref m), some (.int (oI x)), some (.int (nI i)), none] [] h 0 0 := by
  intro n
  induction n with
  | zero => intro i h hlt hle hi hL; exact absurd hlt (by omega)
  | succ n ih =>
    intro i h hlt hle hi hL
    have hc1 := hr.2.1
    have hc2 := hr.2.2.1
    refine e_iload_n 3 dX3_isInRow_2 rfl rfl ?_
    refine e_aload_n 4 dX3_isInRow_3 rfl rfl ?_
    refine e_get 7 dX3_isInRow_4 rfl fl_X3_46_3 (stars_at _ 0 hL rfl) rfl ?_
    refine e_icmp_ge 45 10 dX3_isInRow_7 rfl rfl (fun c7 => ?_) (fun c7 => ?_)
    · have k7 := j_ge_t (a := i) (b := RQ.length) (by omega) (by omega) c7
      refine e_iconst 46 (v := (nI 0)) dX3_isInRow_45 rfl (by decide) ?_
      exact e_zret dX3_isInRow_46 rfl (Or.inl (by decide)) (by omega) (by omega) (⟨_, ⟨by rw [show inR RQ x = false by rw [← hi, List.take_of_length_le (by omega)]]; rfl, rfl⟩, hL⟩)
    · have k7 := j_ge_f (a := i) (b := RQ.length) (by omega) (by omega) c7
      obtain ⟨j, hj, hj2⟩ := hr.2.2.2 i (by omega)
      have hjb := hb _ (List.mem_of_getElem? hj2)
      have hjc : j.2.2 1 < 100000000 := hjb
      refine e_aload_n 11 dX3_isInRow_10 rfl rfl ?_
      refine e_get 14 dX3_isInRow_11 rfl fl_X3_33_3 (stars_at _ 0 hL rfl) rfl ?_
      refine e_aload_n 15 dX3_isInRow_14 rfl rfl ?_
      refine e_get 18 dX3_isInRow_15 rfl fl_X3_49_3 (stars_at _ 0 hL rfl) rfl ?_
      refine e_iload_n 19 dX3_isInRow_18 rfl rfl ?_
      refine e_iadd 20 (v := (nI (h1 + i))) dX3_isInRow_19 rfl (nI_add h1 i) ?_
      refine e_bipush 22 (v := (nI 16)) dX3_isInRow_20 rfl (by decide) ?_
      refine e_irem 23 (v := (nI ((h1 + i) % 16))) dX3_isInRow_22 rfl (by decide) (pk_rem (by omega) (by decide) (by decide)) ?_
      refine e_aald 24 (v := .ref j.1) dX3_isInRow_23 rfl (stars_at _ 1 hL rfl) rfl (Or.inl ⟨_, rfl⟩) (vp_in_nI (by omega) (by omega)) (by rw [nI_clamp (by omega), adJ_at hj]; rfl) ?_
      refine e_astore_n 25 (ls' := [some (.ref m), some (.int (oI x)), some (.int (nI i)), some (.ref j.1)]) dX3_isInRow_24 rfl (by decide) rfl ?_
      refine e_aload_n 26 dX3_isInRow_25 rfl rfl ?_
      refine e_ifnull 29 dX3_isInRow_26 rfl ?_
      refine e_aload_n 30 dX3_isInRow_29 rfl rfl ?_
      obtain ⟨z30, y30⟩ := job_rd _ 2 hL rfl hj
      refine e_get 33 dX3_isInRow_30 rfl fl_X3_62_2 y30 rfl ?_
      refine e_iload_n 34 dX3_isInRow_33 rfl rfl ?_
      refine e_icmp_ne 39 37 dX3_isInRow_34 rfl rfl (fun c34 => ?_) (fun c34 => ?_)
      · refine e_iinc 42 (v := (nI (i + 1))) (ls' := [some (.ref m), some (.int (oI x)), some (.int (nI (i + 1))), some (.ref j.1)]) dX3_isInRow_39 rfl rfl (nI_add i 1) (by decide) rfl ?_
        refine e_goto 2 dX3_isInRow_42 rfl ?_
        refine e_wk [some (.ref m), some (.int (oI x)), some (.int (nI (i + 1))), none] ⟨rfl, rfl, rfl, trivial⟩ ?_
        exact ih (i + 1) h (by omega) (by omega) (by rw [inR_s hj2, hi, Bool.false_or, decide_eq_false_iff_not]; intro z; exact c34 (by rw [← z]; rfl)) (by exact hL)
      · refine e_iconst 38 (v := (nI 1)) dX3_isInRow_37 rfl (by decide) ?_
        exact e_zret dX3_isInRow_38 rfl (Or.inr (by decide)) (by omega) (by omega) (⟨_, ⟨by rw [inR_t hj2 (oI_eq (by omega) (fun k hk => by have := hx k hk; omega) (c34).symm).symm]; rfl, rfl⟩, hL⟩)
set_option maxRecDepth 20000 in
set_option maxHeartbeats 2000000 in
theorem k_X3_isInRow {m h1 h2 n2 n3 : Nat} {A v : Nat → Nat} {L1 : List (Option JB)} {RQ : List RQE} (hr : ring 16 qd L1 h1 RQ) (hb : ∀ e ∈ RQ, e.2.1 < 100000000) {x : Option Nat} (hx : ∀ k, x = some k → k < 100000000) : CA mX3_isInRow [.ref m, .int (oI x)] [pt m (.inr (3, [.ref (A 0), .int (nI (v 1)), .int (nI (v 2)), .int (nI (v 3)), .int (nI (v 4)), .int (nI (v 5)), .ref (A 6), .int (nI h1), .int (nI RQ.length), .int (nI (v 9)), .ref (A 10), .int (nI h2), .int (nI n2), .int (nI (v 13)), .int (nI (v 14)), .ref (A 15), .int (nI n3)])), pt (A 6) (.inl (4, 16, .inr (.inr (.inr (.inr (adJ L1)))))), lst slt L1] (fun r K => r = some (.int (bI (inR RQ x))) ∧ K = [pt m (.inr (3, [.ref (A 0), .int (nI (v 1)), .int (nI (v 2)), .int (nI (v 3)), .int (nI (v 4)), .int (nI (v 5)), .ref (A 6), .int (nI h1), .int (nI RQ.length), .int (nI (v 9)), .ref (A 10), .int (nI h2), .int (nI n2), .int (nI (v 13)), .int (nI (v 14)), .ref (A 15), .int (nI n3)])), pt (A 6) (.inl (4, 16, .inr (.inr (.inr (.inr (adJ L1)))))), lst slt L1]) 0 0 0 0 := by
  refine CA.mk 2 (ls := [some (.ref m), some (.int (oI x)), none, none]) rfl rfl (Nat.le_of_ble_eq_true rfl) rfl (fun h hL => ?_)
  refine e_iconst 1 (v := (nI 0)) dX3_isInRow_0 rfl (by decide) ?_
  refine e_istore_n 2 (ls' := [some (.ref m), some (.int (oI x)), some (.int (nI 0)), none]) dX3_isInRow_1 rfl (by decide) rfl ?_
  exact l_X3_isInRow hr hb hx _ 0 h (Nat.lt_succ_self _) (by omega) (by rw [List.take_zero]; rfl) hL
