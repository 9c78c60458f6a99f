/-! Master: constructor, scans -/
theorem adS_at {K : List (Nat × SCE)} {i : Nat} {e : Nat × SCE} (h : K[i]? = some e) : adS K i = some e.1 := by
  simp only [adS, h, Option.map_some]
theorem adS_set {K : List (Nat × SCE)} {i : Nat} {e : Nat × SCE} (h : K[i]? = some e) (x : SCE) : adS K = adS (K.set i (e.1, x)) := by
  obtain ⟨hi, -⟩ := List.getElem?_eq_some_iff.mp h
  funext j
  by_cases q : j = i
  · subst q
    rw [adS_at h, adS_at (List.getElem?_set_self hi)]
  · simp only [adS, List.getElem?_set_ne (Ne.symm q)]
theorem adS_app {K : List (Nat × SCE)} {q : Nat} {x : SCE} : va_up (adS K) K.length (some q) = adS (K ++ [(q, x)]) := by
  funext j
  by_cases e : j = K.length
  · subst e
    simp [va_up, adS]
  · by_cases e2 : j < K.length
    · simp [va_up, adS, e, List.getElem?_append_left e2]
    · have h1 : K[j]? = none := List.getElem?_eq_none (by omega)
      have h2 : (K ++ [(q, x)])[j]? = none := List.getElem?_eq_none (by rw [List.length_append, List.length_singleton]; omega)
      simp [va_up, adS, e, h1, h2]
theorem lst_nil {α : Type} {f : α → sA} {K : List sA} {h : eH} (k : stars K h) : stars (lst f [] :: K) h := stars_me k
theorem lst_none : ∀ (n : Nat) {K : List sA} {h : eH}, stars K h → stars (lst slt (List.replicate n none) :: K) h
  | 0, _, _, k => stars_me k
  | n + 1, K, h, k => by
    have k1 := lst_none n k
    have k2 : star (fun h => h = e_em) (star (lst slt (List.replicate n none)) (stars K)) h := stars_me k1
    exact star_assoc k2
theorem adJ_none {n : Nat} : (fun _ => none) = adJ (List.replicate n none) := by
  funext i
  simp only [adJ, List.getD, List.getElem?_replicate]
  split <;> rfl
theorem ar_none {a n k : Nat} : ar4 a n (List.replicate k none) = pt a (.inl (4, n, .inr (.inr (.inr (.inr (fun _ => none)))))) := by rw [adJ_none (n := k)]
def ms0 : MS := (upN (upN (upN (upN (fun _ => 0) 3 3) 4 200) 5 40) 20 14, [], [], [], [], fun _ => false)
def hd0 : HD := (0, 0, List.replicate 16 false, List.replicate 32 false)
theorem ring_0 {α β : Type} {cap : Nat} {q : α → β} (hc : 0 < cap) : ring cap q (List.replicate cap none) 0 [] := ⟨List.length_replicate, hc, Nat.zero_le _, fun i hi => absurd hi (Nat.not_lt_zero i)⟩
set_option maxRecDepth 20000 in
set_option maxHeartbeats 2000000 in
theorem k_X3_init {m : Nat} : CA mX3_init [.ref m] [pt m (.inr (3, [.null, .int 0, .int 0, .int 0, .int 0, .int 0, .null, .int 0, .int 0, .int 0, .null, .int 0, .int 0, .int 0, .int 0, .null, .int 0]))] (fun r K => r = none ∧ K = [mst m ms0 hd0]) 3 61 6 318 := by
  refine CA.mk 0 (ls := [some (.ref m)]) rfl rfl (Nat.le_of_ble_eq_true rfl) rfl (fun h hL => ?_)
  refine e_aload_n 1 dX3_init_0 rfl rfl ?_
  refine e_objInit 4 dX3_init_1 rfl oi_X3_3 (by decide) (Nat.le_of_ble_eq_true rfl) ?_
  refine e_aload_n 5 dX3_init_4 rfl rfl ?_
  refine p_new 8 4 hL rfl dX3_init_5 rfl nc_X3_9 (by omega) (by omega) (fun q5 h hL => ?_)
  have hL : stars [pt q5 (.inr (7, [.null, .int 0, .int 0, .int 0])), pt m (.inr (3, [.null, .int 0, .int 0, .int 0, .int 0, .int 0, .null, .int 0, .int 0, .int 0, .null, .int 0, .int 0, .int 0, .int 0, .null, .int 0]))] h := hL
  refine e_dup 9 dX3_init_8 rfl rfl ?_
  refine p_callI 12 hL [0, 1] 2 rfl (by decide) (L1 := [pt q5 (.inr (7, [.null, .int 0, .int 0, .int 0]))]) (L2 := [pt m (.inr (3, [.null, .int 0, .int 0, .int 0, .int 0, .int 0, .null, .int 0, .int 0, .int 0, .null, .int 0, .int 0, .int 0, .int 0, .null, .int 0]))]) rfl dX3_init_9 rfl ci_X3_11 k_X9_init rfl rfl (Nat.le_of_ble_eq_true rfl) ⟨by decide, by omega, by omega⟩ (fun r1 L1 h q hL => ?_)
  obtain ⟨rfl, rfl⟩ := q
  have hL : stars [stn q5 [] 14 false false, pt m (.inr (3, [.null, .int 0, .int 0, .int 0, .int 0, .int 0, .null, .int 0, .int 0, .int 0, .null, .int 0, .int 0, .int 0, .int 0, .null, .int 0]))] h := hL
  refine p_put 15 hL 1 (fs' := [.ref q5, .int 0, .int 0, .int 0, .int 0, .int 0, .null, .int 0, .int 0, .int 0, .null, .int 0, .int 0, .int 0, .int 0, .null, .int 0]) (L' := [stn q5 [] 14 false false, pt m (.inr (3, [.ref q5, .int 0, .int 0, .int 0, .int 0, .int 0, .null, .int 0, .int 0, .int 0, .null, .int 0, .int 0, .int 0, .int 0, .null, .int 0]))]) rfl rfl dX3_init_12 rfl fp_X3_12_3 (Or.inr rfl) (Nat.le_of_ble_eq_true rfl) rfl rfl rfl (fun h hL => ?_)
  refine e_aload_n 16 dX3_init_15 rfl rfl ?_
  refine e_iconst 17 (v := (nI 0)) dX3_init_16 rfl (by decide) ?_
  refine p_put 20 hL 1 (fs' := [.ref q5, .int (nI 0), .int 0, .int 0, .int 0, .int 0, .null, .int 0, .int 0, .int 0, .null, .int 0, .int 0, .int 0, .int 0, .null, .int 0]) (L' := [stn q5 [] 14 false false, pt m (.inr (3, [.ref q5, .int (nI 0), .int 0, .int 0, .int 0, .int 0, .null, .int 0, .int 0, .int 0, .null, .int 0, .int 0, .int 0, .int 0, .null, .int 0]))]) rfl rfl dX3_init_17 rfl fp_X3_18_3 (Or.inl rfl) (Nat.le_of_ble_eq_true rfl) rfl rfl rfl (fun h hL => ?_)
  refine e_aload_n 21 dX3_init_20 rfl rfl ?_
  refine e_iconst 22 (v := (nI 3)) dX3_init_21 rfl (by decide) ?_
  refine p_put 25 hL 1 (fs' := [.ref q5, .int (nI 0), .int 0, .int (nI 3), .int 0, .int 0, .null, .int 0, .int 0, .int 0, .null, .int 0, .int 0, .int 0, .int 0, .null, .int 0]) (L' := [stn q5 [] 14 false false, pt m (.inr (3, [.ref q5, .int (nI 0), .int 0, .int (nI 3), .int 0, .int 0, .null, .int 0, .int 0, .int 0, .null, .int 0, .int 0, .int 0, .int 0, .null, .int 0]))]) rfl rfl dX3_init_22 rfl fp_X3_22_3 (Or.inl rfl) (Nat.le_of_ble_eq_true rfl) rfl rfl rfl (fun h hL => ?_)
  refine e_aload_n 26 dX3_init_25 rfl rfl ?_
  refine e_sipush 29 (v := (nI 200)) dX3_init_26 rfl (by decide) ?_
  refine p_put 32 hL 1 (fs' := [.ref q5, .int (nI 0), .int 0, .int (nI 3), .int (nI 200), .int 0, .null, .int 0, .int 0, .int 0, .null, .int 0, .int 0, .int 0, .int 0, .null, .int 0]) (L' := [stn q5 [] 14 false false, pt m (.inr (3, [.ref q5, .int (nI 0), .int 0, .int (nI 3), .int (nI 200), .int 0, .null, .int 0, .int 0, .int 0, .null, .int 0, .int 0, .int 0, .int 0, .null, .int 0]))]) rfl rfl dX3_init_29 rfl fp_X3_25_3 (Or.inl rfl) (Nat.le_of_ble_eq_true rfl) rfl rfl rfl (fun h hL => ?_)
  refine e_aload_n 33 dX3_init_32 rfl rfl ?_
  refine e_bipush 35 (v := (nI 40)) dX3_init_33 rfl (by decide) ?_
  refine p_put 38 hL 1 (fs' := [.ref q5, .int (nI 0), .int 0, .int (nI 3), .int (nI 200), .int (nI 40), .null, .int 0, .int 0, .int 0, .null, .int 0, .int 0, .int 0, .int 0, .null, .int 0]) (L' := [stn q5 [] 14 false false, pt m (.inr (3, [.ref q5, .int (nI 0), .int 0, .int (nI 3), .int (nI 200), .int (nI 40), .null, .int 0, .int 0, .int 0, .null, .int 0, .int 0, .int 0, .int 0, .null, .int 0]))]) rfl rfl dX3_init_35 rfl fp_X3_28_3 (Or.inl rfl) (Nat.le_of_ble_eq_true rfl) rfl rfl rfl (fun h hL => ?_)
  refine e_aload_n 39 dX3_init_38 rfl rfl ?_
  refine e_bipush 41 (v := (nI 16)) dX3_init_39 rfl (by decide) ?_
  refine p_anew 44 hL (t := 4) (N := 16) dX3_init_41 rfl cl_X3_31 ao_FieldLine_Job rfl (nI_pos (by omega)) (nI_clamp (by omega)) (by omega) (by omega) (by omega) (fun q41 h hL => ?_)
  refine p_put 47 hL 2 (fs' := [.ref q5, .int (nI 0), .int 0, .int (nI 3), .int (nI 200), .int (nI 40), .ref q41, .int 0, .int 0, .int 0, .null, .int 0, .int 0, .int 0, .int 0, .null, .int 0]) (L' := [pt q41 (.inl (4, 16, .inr (.inr (.inr (.inr (fun _ => none)))))), stn q5 [] 14 false false, pt m (.inr (3, [.ref q5, .int (nI 0), .int 0, .int (nI 3), .int (nI 200), .int (nI 40), .ref q41, .int 0, .int 0, .int 0, .null, .int 0, .int 0, .int 0, .int 0, .null, .int 0]))]) rfl rfl dX3_init_44 rfl fp_X3_33_3 (Or.inr rfl) (Nat.le_of_ble_eq_true rfl) rfl rfl rfl (fun h hL => ?_)
  refine e_aload_n 48 dX3_init_47 rfl rfl ?_
  refine e_bipush 50 (v := (nI 32)) dX3_init_48 rfl (by decide) ?_
  refine p_anew 53 hL (t := 4) (N := 32) dX3_init_50 rfl cl_X3_31 ao_FieldLine_Job rfl (nI_pos (by omega)) (nI_clamp (by omega)) (by omega) (by omega) (by omega) (fun q50 h hL => ?_)
  refine p_put 56 hL 3 (fs' := [.ref q5, .int (nI 0), .int 0, .int (nI 3), .int (nI 200), .int (nI 40), .ref q41, .int 0, .int 0, .int 0, .ref q50, .int 0, .int 0, .int 0, .int 0, .null, .int 0]) (L' := [pt q50 (.inl (4, 32, .inr (.inr (.inr (.inr (fun _ => none)))))), pt q41 (.inl (4, 16, .inr (.inr (.inr (.inr (fun _ => none)))))), stn q5 [] 14 false false, pt m (.inr (3, [.ref q5, .int (nI 0), .int 0, .int (nI 3), .int (nI 200), .int (nI 40), .ref q41, .int 0, .int 0, .int 0, .ref q50, .int 0, .int 0, .int 0, .int 0, .null, .int 0]))]) rfl rfl dX3_init_53 rfl fp_X3_37_3 (Or.inr rfl) (Nat.le_of_ble_eq_true rfl) rfl rfl rfl (fun h hL => ?_)
  refine e_aload_n 57 dX3_init_56 rfl rfl ?_
  refine e_bipush 59 (v := (nI 8)) dX3_init_57 rfl (by decide) ?_
  refine p_anew 62 hL (t := 5) (N := 8) dX3_init_59 rfl cl_X3_40 ao_FieldLine_Scan rfl (nI_pos (by omega)) (nI_clamp (by omega)) (by omega) (by omega) (by omega) (fun q59 h hL => ?_)
  refine p_put 65 hL 4 (fs' := [.ref q5, .int (nI 0), .int 0, .int (nI 3), .int (nI 200), .int (nI 40), .ref q41, .int 0, .int 0, .int 0, .ref q50, .int 0, .int 0, .int 0, .int 0, .ref q59, .int 0]) (L' := [pt q59 (.inl (5, 8, .inr (.inr (.inr (.inr (fun _ => none)))))), pt q50 (.inl (4, 32, .inr (.inr (.inr (.inr (fun _ => none)))))), pt q41 (.inl (4, 16, .inr (.inr (.inr (.inr (fun _ => none)))))), stn q5 [] 14 false false, pt m (.inr (3, [.ref q5, .int (nI 0), .int 0, .int (nI 3), .int (nI 200), .int (nI 40), .ref q41, .int 0, .int 0, .int 0, .ref q50, .int 0, .int 0, .int 0, .int 0, .ref q59, .int 0]))]) rfl rfl dX3_init_62 rfl fp_X3_42_3 (Or.inr rfl) (Nat.le_of_ble_eq_true rfl) rfl rfl rfl (fun h hL => ?_)
  exact e_vret dX3_init_65 rfl (by omega) (by omega) (⟨_, ⟨rfl, rfl⟩, by have k1 := lst_none 16 (lst_none 32 (lst_nil (f := sce) (stars_ixn hL 5 rfl [4, 3, 2, 1, 0] (by decide) rfl))); refine mst_c (s := ms0) (z := hd0) (A := (fun i => if i = 0 then q5 else if i = 6 then q41 else if i = 10 then q50 else q59)) (L1 := List.replicate 16 none) (L2 := List.replicate 32 none) (K := []) (X := []) ⟨ring_0 (by decide), ring_0 (by decide), rfl, rfl, rfl, Nat.zero_le _⟩ ?_; rw [ar_none, ar_none]; exact stars_ixn k1 8 rfl [3, 4, 5, 6, 7, 0, 1, 2] (by decide) rfl⟩)
set_option maxRecDepth 20000 in
set_option maxHeartbeats 2000000 in
theorem k_X3_addScanF {m h1 n1 h2 n2 b cb ev ti ad : Nat} {A v : Nat → Nat} {K : List (Nat × SCE)} {p : List Nat} (hp : p.length ≤ 253) (hf : K.length = 8) : CA mX3_addScan [.ref m, .int (nI ev), .int (nI ti), .int (nI ad), .ref b] [pt m (.inr (3, [.ref (A 0), .int (nI (v 1)), .int (nI (v 2)), .int (nI (v 3)), .int (nI (v 4)), .int (nI (v 5)), .ref (A 6), .int (nI h1), .int (nI n1), .int (nI (v 9)), .ref (A 10), .int (nI h2), .int (nI n2), .int (nI (v 13)), .int (nI (v 14)), .ref (A 15), .int (nI K.length)])), pt (A 15) (.inl (5, 8, .inr (.inr (.inr (.inr (adS K)))))), lst sce K, row b cb p] (fun r K9 => r = some (.int (-1)) ∧ K9 = [pt m (.inr (3, [.ref (A 0), .int (nI (v 1)), .int (nI (v 2)), .int (nI (v 3)), .int (nI (v 4)), .int (nI (v 5)), .ref (A 6), .int (nI h1), .int (nI n1), .int (nI (v 9)), .ref (A 10), .int (nI h2), .int (nI n2), .int (nI (v 13)), .int (nI (v 14)), .ref (A 15), .int (nI K.length)])), pt (A 15) (.inl (5, 8, .inr (.inr (.inr (.inr (adS K)))))), lst sce K, row b cb p]) 0 0 0 0 := by
  refine CA.mk 0 (ls := [some (.ref m), some (.int (nI ev)), some (.int (nI ti)), some (.int (nI ad)), some (.ref b)]) rfl rfl (Nat.le_of_ble_eq_true rfl) rfl (fun h hL => ?_)
  refine e_aload_n 1 dX3_addScan_0 rfl rfl ?_
  refine e_get 4 dX3_addScan_1 rfl fl_X3_84_3 (stars_at _ 0 hL rfl) rfl ?_
  refine e_bipush 6 (v := (nI 8)) dX3_addScan_4 rfl (by decide) ?_
  refine e_icmp_lt 11 9 dX3_addScan_6 rfl rfl (fun c6 => absurd c6 (fun z => absurd (j_lt_t (by omega) (by omega) z) (by omega))) (fun c6 => ?_)
  refine e_iconst 10 (v := (-1)) dX3_addScan_9 rfl (by decide) ?_
  exact e_iret dX3_addScan_10 rfl (by omega) (by omega) (⟨_, ⟨rfl, rfl⟩, hL⟩)
set_option maxRecDepth 20000 in
set_option maxHeartbeats 2000000 in
theorem k_X3_addScanR {m h1 n1 h2 n2 b cb ev ti ad : Nat} {A v : Nat → Nat} {K : List (Nat × SCE)} {p : List Nat} (hp : p.length ≤ 253) (hf : K.length < 8) : CA mX3_addScan [.ref m, .int (nI ev), .int (nI ti), .int (nI ad), .ref b] [pt m (.inr (3, [.ref (A 0), .int (nI (v 1)), .int (nI (v 2)), .int (nI (v 3)), .int (nI (v 4)), .int (nI (v 5)), .ref (A 6), .int (nI h1), .int (nI n1), .int (nI (v 9)), .ref (A 10), .int (nI h2), .int (nI n2), .int (nI (v 13)), .int (nI (v 14)), .ref (A 15), .int (nI K.length)])), pt (A 15) (.inl (5, 8, .inr (.inr (.inr (.inr (adS K)))))), lst sce K, row b cb p] (fun r K9 => ∃ q, r = some (.int (nI K.length)) ∧ K9 = [pt m (.inr (3, [.ref (A 0), .int (nI (v 1)), .int (nI (v 2)), .int (nI (v 3)), .int (nI (v 4)), .int (nI (v 5)), .ref (A 6), .int (nI h1), .int (nI n1), .int (nI (v 9)), .ref (A 10), .int (nI h2), .int (nI n2), .int (nI (v 13)), .int (nI (v 14)), .ref (A 15), .int (nI (K.length + 1))])), pt (A 15) (.inl (5, 8, .inr (.inr (.inr (.inr (adS (K ++ [(q, (p, ev, ad, ti, none))]))))))), lst sce (K ++ [(q, (p, ev, ad, ti, none))]), row b cb p]) 3 80 3 260 := by
  refine CA.mk 0 (ls := [some (.ref m), some (.int (nI ev)), some (.int (nI ti)), some (.int (nI ad)), some (.ref b)]) rfl rfl (Nat.le_of_ble_eq_true rfl) rfl (fun h hL => ?_)
  refine e_aload_n 1 dX3_addScan_0 rfl rfl ?_
  refine e_get 4 dX3_addScan_1 rfl fl_X3_84_3 (stars_at _ 0 hL rfl) rfl ?_
  refine e_bipush 6 (v := (nI 8)) dX3_addScan_4 rfl (by decide) ?_
  refine e_icmp_lt 11 9 dX3_addScan_6 rfl rfl (fun c6 => ?_) (fun c6 => absurd c6 (nI_nlt2 (by omega) (by omega) (by omega)))
  refine e_aload_n 12 dX3_addScan_11 rfl rfl ?_
  refine e_get 15 dX3_addScan_12 rfl fl_X3_42_3 (stars_at _ 0 hL rfl) rfl ?_
  refine e_aload_n 16 dX3_addScan_15 rfl rfl ?_
  refine e_get 19 dX3_addScan_16 rfl fl_X3_84_3 (stars_at _ 0 hL rfl) rfl ?_
  refine p_new 22 5 hL rfl dX3_addScan_19 rfl nc_X3_40 (by omega) (by omega) (fun q19 h hL => ?_)
  have hL : stars [pt q19 (.inr (5, [.null, .int 0, .int 0, .int 0, .int 0])), pt m (.inr (3, [.ref (A 0), .int (nI (v 1)), .int (nI (v 2)), .int (nI (v 3)), .int (nI (v 4)), .int (nI (v 5)), .ref (A 6), .int (nI h1), .int (nI n1), .int (nI (v 9)), .ref (A 10), .int (nI h2), .int (nI n2), .int (nI (v 13)), .int (nI (v 14)), .ref (A 15), .int (nI K.length)])), pt (A 15) (.inl (5, 8, .inr (.inr (.inr (.inr (adS K)))))), lst sce K, row b cb p] h := hL
  refine e_dup 23 dX3_addScan_22 rfl rfl ?_
  refine e_iload_n 24 dX3_addScan_23 rfl rfl ?_
  refine e_iload_n 25 dX3_addScan_24 rfl rfl ?_
  refine e_iload_n 26 dX3_addScan_25 rfl rfl ?_
  refine e_aload 28 dX3_addScan_26 rfl rfl ?_
  refine p_callI 31 hL [0, 4, 1, 2, 3] 5 rfl (by decide) (L1 := [pt q19 (.inr (5, [.null, .int 0, .int 0, .int 0, .int 0])), row b cb p]) (L2 := [pt m (.inr (3, [.ref (A 0), .int (nI (v 1)), .int (nI (v 2)), .int (nI (v 3)), .int (nI (v 4)), .int (nI (v 5)), .ref (A 6), .int (nI h1), .int (nI n1), .int (nI (v 9)), .ref (A 10), .int (nI h2), .int (nI n2), .int (nI (v 13)), .int (nI (v 14)), .ref (A 15), .int (nI K.length)])), pt (A 15) (.inl (5, 8, .inr (.inr (.inr (.inr (adS K)))))), lst sce K]) rfl dX3_addScan_28 rfl ci_X3_87 (k_X5_init hp) rfl rfl (Nat.le_of_ble_eq_true rfl) ⟨by decide, by omega, by omega⟩ (fun r1 L1 h q hL => ?_)
  obtain ⟨rfl, rfl⟩ := q
  have hL : stars [scn q19 p ev ad ti none, row b cb p, pt m (.inr (3, [.ref (A 0), .int (nI (v 1)), .int (nI (v 2)), .int (nI (v 3)), .int (nI (v 4)), .int (nI (v 5)), .ref (A 6), .int (nI h1), .int (nI n1), .int (nI (v 9)), .ref (A 10), .int (nI h2), .int (nI n2), .int (nI (v 13)), .int (nI (v 14)), .ref (A 15), .int (nI K.length)])), pt (A 15) (.inl (5, 8, .inr (.inr (.inr (.inr (adS K)))))), lst sce K] h := hL
  refine p_aastO 32 hL 3 0 (k := K.length) (L' := [scn q19 p ev ad ti none, row b cb p, pt m (.inr (3, [.ref (A 0), .int (nI (v 1)), .int (nI (v 2)), .int (nI (v 3)), .int (nI (v 4)), .int (nI (v 5)), .ref (A 6), .int (nI h1), .int (nI n1), .int (nI (v 9)), .ref (A 10), .int (nI h2), .int (nI n2), .int (nI (v 13)), .int (nI (v 14)), .ref (A 15), .int (nI K.length)])), pt (A 15) (.inl (5, 8, .inr (.inr (.inr (.inr (va_up (adS K) K.length (some q19))))))), lst sce K]) rfl rfl scn_O rfl dX3_addScan_31 rfl rfl rfl (vp_in_nI (by omega) (by omega)) (nI_clamp (by omega)) (fun h hL => ?_)
  refine e_aload_n 33 dX3_addScan_32 rfl rfl ?_
  refine e_dup 34 dX3_addScan_33 rfl rfl ?_
  refine e_get 37 dX3_addScan_34 rfl fl_X3_84_3 (stars_at _ 2 hL rfl) rfl ?_
  refine e_iconst 38 (v := (nI 1)) dX3_addScan_37 rfl (by decide) ?_
  refine e_iadd 39 (v := (nI (K.length + 1))) dX3_addScan_38 rfl (nI_add K.length 1) ?_
  refine p_put 42 hL 2 (fs' := [.ref (A 0), .int (nI (v 1)), .int (nI (v 2)), .int (nI (v 3)), .int (nI (v 4)), .int (nI (v 5)), .ref (A 6), .int (nI h1), .int (nI n1), .int (nI (v 9)), .ref (A 10), .int (nI h2), .int (nI n2), .int (nI (v 13)), .int (nI (v 14)), .ref (A 15), .int (nI (K.length + 1))]) (L' := [scn q19 p ev ad ti none, row b cb p, pt m (.inr (3, [.ref (A 0), .int (nI (v 1)), .int (nI (v 2)), .int (nI (v 3)), .int (nI (v 4)), .int (nI (v 5)), .ref (A 6), .int (nI h1), .int (nI n1), .int (nI (v 9)), .ref (A 10), .int (nI h2), .int (nI n2), .int (nI (v 13)), .int (nI (v 14)), .ref (A 15), .int (nI (K.length + 1))])), pt (A 15) (.inl (5, 8, .inr (.inr (.inr (.inr (va_up (adS K) K.length (some q19))))))), lst sce K]) rfl rfl dX3_addScan_39 rfl fp_X3_84_3 (Or.inl rfl) (Nat.le_of_ble_eq_true rfl) rfl rfl rfl (fun h hL => ?_)
  refine e_aload_n 43 dX3_addScan_42 rfl rfl ?_
  refine e_get 46 dX3_addScan_43 rfl fl_X3_84_3 (stars_at _ 2 hL rfl) rfl ?_
  refine e_iconst 47 (v := (nI 1)) dX3_addScan_46 rfl (by decide) ?_
  refine e_isub 48 (v := (nI K.length)) dX3_addScan_47 rfl (pk_sub (by omega)) ?_
  exact e_iret dX3_addScan_48 rfl (by omega) (by omega) (⟨_, ⟨_, rfl, rfl⟩, by have k1 := lst_a (f := sce) (x := (q19, (p, ev, ad, ti, none))) (stars_ixn hL 5 rfl [0, 4, 2, 3, 1] (by decide) rfl); rw [adS_app (x := (p, ev, ad, ti, none))] at k1; exact stars_ixn k1 4 rfl [1, 2, 0, 3] (by decide) rfl⟩)
