/-! Master: addRequest, addScan -/
theorem pf_all {r : List Nat} : pf r 0 r.length = r := by
  apply List.ext_getElem
  · simp [pf]
  · intro i h1 h2
    simp [pf, List.getD, h2]
theorem k_all {a cap a2 cap2 : Nat} {r r2 : List Nat} (h : r2.length ≤ cap) (h2 : r2.length < 100000) : CA mX4_become [.ref a, .ref a2, .int (nI 0), .int (nI r2.length)] [row a cap r, row a2 cap2 r2] (fun x L => x = none ∧ L = [row a cap r2, row a2 cap2 r2]) 1 25 0 0 := by
  have k := k_X4_become (a := a) (cap := cap) (a2 := a2) (cap2 := cap2) (r := r) (r2 := r2) (s := 0) (m := r2.length) (by decide) h2
  rw [pf_all, List.take_of_length_le h] at k
  exact k
theorem k_allP {a cap a2 cap2 : Nat} {r2 : List Nat} (h : r2.length ≤ cap) (h2 : r2.length < 100000) : CA mX4_addPart [.ref a, .ref a2, .int (nI 0), .int (nI r2.length)] [row a cap [], row a2 cap2 r2] (fun x L => x = none ∧ L = [row a cap r2, row a2 cap2 r2]) 0 0 0 0 := by
  have k := k_X4_addPart (a := a) (cap := cap) (a2 := a2) (cap2 := cap2) (r := []) (r2 := r2) (s := 0) (m := r2.length) (by decide) h2
  rw [pf_all, List.nil_append, List.take_of_length_le h] at k
  exact k
set_option maxRecDepth 20000 in
set_option maxHeartbeats 2000000 in
theorem k_X3_addRequestF {m h1 h2 n2 n3 b cb ad : Nat} {A v : Nat → Nat} {L1 : List (Option JB)} {RQ : List RQE} {p : List Nat} (hr : ring 16 qd L1 h1 RQ) (hp : p.length ≤ 253) (hf : 16 ≤ RQ.length) : CA mX3_addRequest [.ref m, .int (nI ad), .ref b] [pt m (.inr (3, [.ref (A 0), .int (nI (v 1)), .int (nI (v 2)), .int (nI (v 3)), .int (nI (v 4)), .int (nI (v 5)), .ref (A 6), .int (nI h1), .int (nI RQ.length), .int (nI (v 9)), .ref (A 10), .int (nI h2), .int (nI n2), .int (nI (v 13)), .int (nI (v 14)), .ref (A 15), .int (nI n3)])), pt (A 6) (.inl (4, 16, .inr (.inr (.inr (.inr (adJ L1)))))), lst slt L1, row b cb p] (fun r K => r = some (.int (-1)) ∧ K = [pt m (.inr (3, [.ref (A 0), .int (nI (v 1)), .int (nI (v 2)), .int (nI (v 3)), .int (nI (v 4)), .int (nI (v 5)), .ref (A 6), .int (nI h1), .int (nI RQ.length), .int (nI (v 9)), .ref (A 10), .int (nI h2), .int (nI n2), .int (nI (v 13)), .int (nI (v 14)), .ref (A 15), .int (nI n3)])), pt (A 6) (.inl (4, 16, .inr (.inr (.inr (.inr (adJ L1)))))), lst slt L1, row b cb p]) 2 48 0 0 := by
  refine CA.mk 2 (ls := [some (.ref m), some (.int (nI ad)), some (.ref b), none, none]) rfl rfl (Nat.le_of_ble_eq_true rfl) rfl (fun h hL => ?_)
  have hc1 := hr.2.1
  have hc2 := hr.2.2.1
  have hc3 := hr.1
  refine e_aload_n 1 dX3_addRequest_0 rfl rfl ?_
  refine e_get 4 dX3_addRequest_1 rfl fl_X3_46_3 (stars_at _ 0 hL rfl) rfl ?_
  refine e_bipush 6 (v := (nI 16)) dX3_addRequest_4 rfl (by decide) ?_
  refine e_icmp_lt 11 9 dX3_addRequest_6 rfl rfl (fun c6 => absurd c6 (fun z => absurd (j_lt_t (by omega) (by omega) z) (by omega))) (fun c6 => ?_)
  refine e_iconst 10 (v := (-1)) dX3_addRequest_9 rfl (by decide) ?_
  exact e_iret dX3_addRequest_10 rfl (by omega) (by omega) (⟨_, ⟨rfl, rfl⟩, hL⟩)
theorem va_up_id {f : Nat → Option Nat} {i : Nat} {x : Option Nat} (h : f i = x) : va_up f i x = f := by
  funext j
  by_cases e : j = i
  · subst e; simp [va_up, h]
  · simp [va_up, e]
theorem nI_nlt2 {a b : Nat} (ha : a < 2 ^ 31) (hb : b < 2 ^ 31) (h : a < b) : ¬ ¬ nI a < nI b := fun z => absurd (j_lt_f ha hb z) (by omega)
set_option maxRecDepth 20000 in
set_option maxHeartbeats 2000000 in
theorem k_X3_addRequestN {m h1 h2 n2 n3 b cb ad : Nat} {A v : Nat → Nat} {L1 : List (Option JB)} {RQ : List RQE} {p : List Nat} (hr : ring 16 qd L1 h1 RQ) (hp : p.length ≤ 253) (hf : RQ.length < 16) (hs : L1[((h1 + RQ.length) % 16)]? = some none) : CA mX3_addRequest [.ref m, .int (nI ad), .ref b] [pt m (.inr (3, [.ref (A 0), .int (nI (v 1)), .int (nI (v 2)), .int (nI (v 3)), .int (nI (v 4)), .int (nI (v 5)), .ref (A 6), .int (nI h1), .int (nI RQ.length), .int (nI (v 9)), .ref (A 10), .int (nI h2), .int (nI n2), .int (nI (v 13)), .int (nI (v 14)), .ref (A 15), .int (nI n3)])), pt (A 6) (.inl (4, 16, .inr (.inr (.inr (.inr (adJ L1)))))), lst slt L1, row b cb p] (fun r K => ∃ q, r = some (.int (nI (v 9))) ∧ K = [pt m (.inr (3, [.ref (A 0), .int (nI (v 1)), .int (nI (v 2)), .int (nI (v 3)), .int (nI (v 4)), .int (nI (v 5)), .ref (A 6), .int (nI h1), .int (nI (RQ.length + 1)), .int (nI (v 9 + 1)), .ref (A 10), .int (nI h2), .int (nI n2), .int (nI (v 13)), .int (nI (v 14)), .ref (A 15), .int (nI n3)])), pt (A 6) (.inl (4, 16, .inr (.inr (.inr (.inr (adJ (L1.set ((h1 + RQ.length) % 16) (some (q, p, (upN (upN (upN (fun _ => 0) 1 (v 9)) 2 ad) 3 0)))))))))), lst slt (L1.set ((h1 + RQ.length) % 16) (some (q, p, (upN (upN (upN (fun _ => 0) 1 (v 9)) 2 ad) 3 0)))), row b cb p]) 3 72 3 261 := by
  refine CA.mk 2 (ls := [some (.ref m), some (.int (nI ad)), some (.ref b), none, none]) rfl rfl (Nat.le_of_ble_eq_true rfl) rfl (fun h hL => ?_)
  have hc1 := hr.2.1
  have hc2 := hr.2.2.1
  have hc3 := hr.1
  have hpl : (h1 + RQ.length) % 16 < 16 := Nat.mod_lt _ (by decide)
  refine e_aload_n 1 dX3_addRequest_0 rfl rfl ?_
  refine e_get 4 dX3_addRequest_1 rfl fl_X3_46_3 (stars_at _ 0 hL rfl) rfl ?_
  refine e_bipush 6 (v := (nI 16)) dX3_addRequest_4 rfl (by decide) ?_
  refine e_icmp_lt 11 9 dX3_addRequest_6 rfl rfl (fun c6 => ?_) (fun c6 => absurd c6 (nI_nlt2 (by omega) (by omega) (by omega)))
  refine e_aload_n 12 dX3_addRequest_11 rfl rfl ?_
  refine e_get 15 dX3_addRequest_12 rfl fl_X3_49_3 (stars_at _ 0 hL rfl) rfl ?_
  refine e_aload_n 16 dX3_addRequest_15 rfl rfl ?_
  refine e_get 19 dX3_addRequest_16 rfl fl_X3_46_3 (stars_at _ 0 hL rfl) rfl ?_
  refine e_iadd 20 (v := (nI (h1 + RQ.length))) dX3_addRequest_19 rfl (nI_add h1 RQ.length) ?_
  refine e_bipush 22 (v := (nI 16)) dX3_addRequest_20 rfl (by decide) ?_
  refine e_irem 23 (v := (nI ((h1 + RQ.length) % 16))) dX3_addRequest_22 rfl (by decide) (pk_rem (by omega) (by decide) (by decide)) ?_
  refine e_istore_n 24 (ls' := [some (.ref m), some (.int (nI ad)), some (.ref b), some (.int (nI ((h1 + RQ.length) % 16))), none]) dX3_addRequest_23 rfl (by decide) rfl ?_
  refine e_aload_n 25 dX3_addRequest_24 rfl rfl ?_
  refine e_get 28 dX3_addRequest_25 rfl fl_X3_33_3 (stars_at _ 0 hL rfl) rfl ?_
  refine e_iload_n 29 dX3_addRequest_28 rfl rfl ?_
  refine e_aald 30 (v := .null) dX3_addRequest_29 rfl (stars_at _ 1 hL rfl) rfl (Or.inl ⟨_, rfl⟩) (vp_in_nI (by omega) (by omega)) (by rw [nI_clamp (by omega), adJ_at hs]; rfl) ?_
  refine e_astoreN 32 (ls' := [some (.ref m), some (.int (nI ad)), some (.ref b), some (.int (nI ((h1 + RQ.length) % 16))), some .null]) dX3_addRequest_30 rfl (by decide) rfl ?_
  refine e_aloadN 34 dX3_addRequest_32 rfl rfl ?_
  refine e_ifnonnullN 37 dX3_addRequest_34 rfl ?_
  have hL : stars [lst slt L1, pt m (.inr (3, [.ref (A 0), .int (nI (v 1)), .int (nI (v 2)), .int (nI (v 3)), .int (nI (v 4)), .int (nI (v 5)), .ref (A 6), .int (nI h1), .int (nI RQ.length), .int (nI (v 9)), .ref (A 10), .int (nI h2), .int (nI n2), .int (nI (v 13)), .int (nI (v 14)), .ref (A 15), .int (nI n3)])), pt (A 6) (.inl (4, 16, .inr (.inr (.inr (.inr (adJ L1)))))), row b cb p] h := stars_ixn hL 4 rfl [2, 0, 1, 3] (by decide) rfl
  have hL := stars_em (lst_o _ hs hL)
  have hL : stars [lst slt (L1.eraseIdx ((h1 + RQ.length) % 16)), pt m (.inr (3, [.ref (A 0), .int (nI (v 1)), .int (nI (v 2)), .int (nI (v 3)), .int (nI (v 4)), .int (nI (v 5)), .ref (A 6), .int (nI h1), .int (nI RQ.length), .int (nI (v 9)), .ref (A 10), .int (nI h2), .int (nI n2), .int (nI (v 13)), .int (nI (v 14)), .ref (A 15), .int (nI n3)])), pt (A 6) (.inl (4, 16, .inr (.inr (.inr (.inr (adJ L1)))))), row b cb p] h := hL
  refine p_new 40 6 hL rfl dX3_addRequest_37 rfl nc_X3_31 (by omega) (by omega) (fun q37 h hL => ?_)
  have hL : stars [pt q37 (.inr (2, [.null, .int 0, .int 0, .int 0, .int 0, .int 0])), lst slt (L1.eraseIdx ((h1 + RQ.length) % 16)), pt m (.inr (3, [.ref (A 0), .int (nI (v 1)), .int (nI (v 2)), .int (nI (v 3)), .int (nI (v 4)), .int (nI (v 5)), .ref (A 6), .int (nI h1), .int (nI RQ.length), .int (nI (v 9)), .ref (A 10), .int (nI h2), .int (nI n2), .int (nI (v 13)), .int (nI (v 14)), .ref (A 15), .int (nI n3)])), pt (A 6) (.inl (4, 16, .inr (.inr (.inr (.inr (adJ L1)))))), row b cb p] h := hL
  refine e_dup 41 dX3_addRequest_40 rfl rfl ?_
  refine p_callI 44 hL [0, 1, 2, 3, 4] 5 rfl (by decide) (L1 := [pt q37 (.inr (2, [.null, .int 0, .int 0, .int 0, .int 0, .int 0]))]) (L2 := [lst slt (L1.eraseIdx ((h1 + RQ.length) % 16)), pt m (.inr (3, [.ref (A 0), .int (nI (v 1)), .int (nI (v 2)), .int (nI (v 3)), .int (nI (v 4)), .int (nI (v 5)), .ref (A 6), .int (nI h1), .int (nI RQ.length), .int (nI (v 9)), .ref (A 10), .int (nI h2), .int (nI n2), .int (nI (v 13)), .int (nI (v 14)), .ref (A 15), .int (nI n3)])), pt (A 6) (.inl (4, 16, .inr (.inr (.inr (.inr (adJ L1)))))), row b cb p]) rfl dX3_addRequest_41 rfl ci_X3_58 k_X2_init rfl rfl (Nat.le_of_ble_eq_true rfl) ⟨by decide, by omega, by omega⟩ (fun r1 L1 h q hL => ?_)
  obtain ⟨rfl, rfl⟩ := q
  have hL : stars [job q37 ([]) (fun _ => 0), lst slt (L1.eraseIdx ((h1 + RQ.length) % 16)), pt m (.inr (3, [.ref (A 0), .int (nI (v 1)), .int (nI (v 2)), .int (nI (v 3)), .int (nI (v 4)), .int (nI (v 5)), .ref (A 6), .int (nI h1), .int (nI RQ.length), .int (nI (v 9)), .ref (A 10), .int (nI h2), .int (nI n2), .int (nI (v 13)), .int (nI (v 14)), .ref (A 15), .int (nI n3)])), pt (A 6) (.inl (4, 16, .inr (.inr (.inr (.inr (adJ L1)))))), row b cb p] h := hL
  refine e_astore 46 (ls' := [some (.ref m), some (.int (nI ad)), some (.ref b), some (.int (nI ((h1 + RQ.length) % 16))), some (.ref q37)]) dX3_addRequest_44 rfl (by decide) rfl ?_
  refine e_aload_n 47 dX3_addRequest_46 rfl rfl ?_
  refine e_get 50 dX3_addRequest_47 rfl fl_X3_33_3 (stars_at _ 2 hL rfl) rfl ?_
  refine e_iload_n 51 dX3_addRequest_50 rfl rfl ?_
  refine e_aload 53 dX3_addRequest_51 rfl rfl ?_
  refine p_aastO 54 hL 3 0 (k := ((h1 + RQ.length) % 16)) (L' := [job q37 ([]) (fun _ => 0), lst slt (L1.eraseIdx ((h1 + RQ.length) % 16)), pt m (.inr (3, [.ref (A 0), .int (nI (v 1)), .int (nI (v 2)), .int (nI (v 3)), .int (nI (v 4)), .int (nI (v 5)), .ref (A 6), .int (nI h1), .int (nI RQ.length), .int (nI (v 9)), .ref (A 10), .int (nI h2), .int (nI n2), .int (nI (v 13)), .int (nI (v 14)), .ref (A 15), .int (nI n3)])), pt (A 6) (.inl (4, 16, .inr (.inr (.inr (.inr (va_up (adJ L1) ((h1 + RQ.length) % 16) (some q37))))))), row b cb p]) rfl rfl job_O rfl dX3_addRequest_53 rfl rfl rfl (vp_in_nI (by omega) (by omega)) (nI_clamp (by omega)) (fun h hL => ?_)
  obtain ⟨jr, hL⟩ := job_o hL
  have hL : stars [pt q37 (.inr (2, [.ref jr, .int (nI ((fun _ => 0) 1)), .int (nI ((fun _ => 0) 2)), .int (nI ((fun _ => 0) 3)), .int (nI ((fun _ => 0) 4)), .int (nI ((fun _ => 0) 5))])), row jr 253 ([]), lst slt (L1.eraseIdx ((h1 + RQ.length) % 16)), pt m (.inr (3, [.ref (A 0), .int (nI (v 1)), .int (nI (v 2)), .int (nI (v 3)), .int (nI (v 4)), .int (nI (v 5)), .ref (A 6), .int (nI h1), .int (nI RQ.length), .int (nI (v 9)), .ref (A 10), .int (nI h2), .int (nI n2), .int (nI (v 13)), .int (nI (v 14)), .ref (A 15), .int (nI n3)])), pt (A 6) (.inl (4, 16, .inr (.inr (.inr (.inr (va_up (adJ L1) ((h1 + RQ.length) % 16) (some q37))))))), row b cb p] h := hL
  refine e_aload_n 55 dX3_addRequest_54 rfl rfl ?_
  refine e_dup 56 dX3_addRequest_55 rfl rfl ?_
  refine e_get 59 dX3_addRequest_56 rfl fl_X3_46_3 (stars_at _ 3 hL rfl) rfl ?_
  refine e_iconst 60 (v := (nI 1)) dX3_addRequest_59 rfl (by decide) ?_
  refine e_iadd 61 (v := (nI (RQ.length + 1))) dX3_addRequest_60 rfl (nI_add RQ.length 1) ?_
  refine p_put 64 hL 3 (fs' := [.ref (A 0), .int (nI (v 1)), .int (nI (v 2)), .int (nI (v 3)), .int (nI (v 4)), .int (nI (v 5)), .ref (A 6), .int (nI h1), .int (nI (RQ.length + 1)), .int (nI (v 9)), .ref (A 10), .int (nI h2), .int (nI n2), .int (nI (v 13)), .int (nI (v 14)), .ref (A 15), .int (nI n3)]) (L' := [pt q37 (.inr (2, [.ref jr, .int (nI ((fun _ => 0) 1)), .int (nI ((fun _ => 0) 2)), .int (nI ((fun _ => 0) 3)), .int (nI ((fun _ => 0) 4)), .int (nI ((fun _ => 0) 5))])), row jr 253 ([]), lst slt (L1.eraseIdx ((h1 + RQ.length) % 16)), pt m (.inr (3, [.ref (A 0), .int (nI (v 1)), .int (nI (v 2)), .int (nI (v 3)), .int (nI (v 4)), .int (nI (v 5)), .ref (A 6), .int (nI h1), .int (nI (RQ.length + 1)), .int (nI (v 9)), .ref (A 10), .int (nI h2), .int (nI n2), .int (nI (v 13)), .int (nI (v 14)), .ref (A 15), .int (nI n3)])), pt (A 6) (.inl (4, 16, .inr (.inr (.inr (.inr (va_up (adJ L1) ((h1 + RQ.length) % 16) (some q37))))))), row b cb p]) rfl rfl dX3_addRequest_61 rfl fp_X3_46_3 (Or.inl rfl) (Nat.le_of_ble_eq_true rfl) rfl rfl rfl (fun h hL => ?_)
  refine e_aload 66 dX3_addRequest_64 rfl rfl ?_
  refine e_aload_n 67 dX3_addRequest_66 rfl rfl ?_
  refine e_get 70 dX3_addRequest_67 rfl fl_X3_59_3 (stars_at _ 3 hL rfl) rfl ?_
  refine p_put 73 hL 0 (fs' := [.ref jr, .int (nI (v 9)), .int (nI ((fun _ => 0) 2)), .int (nI ((fun _ => 0) 3)), .int (nI ((fun _ => 0) 4)), .int (nI ((fun _ => 0) 5))]) (L' := [pt q37 (.inr (2, [.ref jr, .int (nI (v 9)), .int (nI ((fun _ => 0) 2)), .int (nI ((fun _ => 0) 3)), .int (nI ((fun _ => 0) 4)), .int (nI ((fun _ => 0) 5))])), row jr 253 ([]), lst slt (L1.eraseIdx ((h1 + RQ.length) % 16)), pt m (.inr (3, [.ref (A 0), .int (nI (v 1)), .int (nI (v 2)), .int (nI (v 3)), .int (nI (v 4)), .int (nI (v 5)), .ref (A 6), .int (nI h1), .int (nI (RQ.length + 1)), .int (nI (v 9)), .ref (A 10), .int (nI h2), .int (nI n2), .int (nI (v 13)), .int (nI (v 14)), .ref (A 15), .int (nI n3)])), pt (A 6) (.inl (4, 16, .inr (.inr (.inr (.inr (va_up (adJ L1) ((h1 + RQ.length) % 16) (some q37))))))), row b cb p]) rfl rfl dX3_addRequest_70 rfl fp_X3_62_2 (Or.inl rfl) (Nat.le_of_ble_eq_true rfl) rfl rfl rfl (fun h hL => ?_)
  refine e_aload 75 dX3_addRequest_73 rfl rfl ?_
  refine e_iload_n 76 dX3_addRequest_75 rfl rfl ?_
  refine p_put 79 hL 0 (fs' := [.ref jr, .int (nI (v 9)), .int (nI ad), .int (nI ((fun _ => 0) 3)), .int (nI ((fun _ => 0) 4)), .int (nI ((fun _ => 0) 5))]) (L' := [pt q37 (.inr (2, [.ref jr, .int (nI (v 9)), .int (nI ad), .int (nI ((fun _ => 0) 3)), .int (nI ((fun _ => 0) 4)), .int (nI ((fun _ => 0) 5))])), row jr 253 ([]), lst slt (L1.eraseIdx ((h1 + RQ.length) % 16)), pt m (.inr (3, [.ref (A 0), .int (nI (v 1)), .int (nI (v 2)), .int (nI (v 3)), .int (nI (v 4)), .int (nI (v 5)), .ref (A 6), .int (nI h1), .int (nI (RQ.length + 1)), .int (nI (v 9)), .ref (A 10), .int (nI h2), .int (nI n2), .int (nI (v 13)), .int (nI (v 14)), .ref (A 15), .int (nI n3)])), pt (A 6) (.inl (4, 16, .inr (.inr (.inr (.inr (va_up (adJ L1) ((h1 + RQ.length) % 16) (some q37))))))), row b cb p]) rfl rfl dX3_addRequest_76 rfl fp_X3_65_2 (Or.inl rfl) (Nat.le_of_ble_eq_true rfl) rfl rfl rfl (fun h hL => ?_)
  refine e_aload 81 dX3_addRequest_79 rfl rfl ?_
  refine e_iconst 82 (v := (nI 0)) dX3_addRequest_81 rfl (by decide) ?_
  refine p_put 85 hL 0 (fs' := [.ref jr, .int (nI (v 9)), .int (nI ad), .int (nI 0), .int (nI ((fun _ => 0) 4)), .int (nI ((fun _ => 0) 5))]) (L' := [pt q37 (.inr (2, [.ref jr, .int (nI (v 9)), .int (nI ad), .int (nI 0), .int (nI ((fun _ => 0) 4)), .int (nI ((fun _ => 0) 5))])), row jr 253 ([]), lst slt (L1.eraseIdx ((h1 + RQ.length) % 16)), pt m (.inr (3, [.ref (A 0), .int (nI (v 1)), .int (nI (v 2)), .int (nI (v 3)), .int (nI (v 4)), .int (nI (v 5)), .ref (A 6), .int (nI h1), .int (nI (RQ.length + 1)), .int (nI (v 9)), .ref (A 10), .int (nI h2), .int (nI n2), .int (nI (v 13)), .int (nI (v 14)), .ref (A 15), .int (nI n3)])), pt (A 6) (.inl (4, 16, .inr (.inr (.inr (.inr (va_up (adJ L1) ((h1 + RQ.length) % 16) (some q37))))))), row b cb p]) rfl rfl dX3_addRequest_82 rfl fp_X3_68_2 (Or.inl rfl) (Nat.le_of_ble_eq_true rfl) rfl rfl rfl (fun h hL => ?_)
  refine e_aload 87 dX3_addRequest_85 rfl rfl ?_
  refine e_get 90 dX3_addRequest_87 rfl fl_X3_71_2 (stars_at _ 0 hL rfl) rfl ?_
  refine e_aload_n 91 dX3_addRequest_90 rfl rfl ?_
  refine e_iconst 92 (v := (nI 0)) dX3_addRequest_91 rfl (by decide) ?_
  refine e_aload_n 93 dX3_addRequest_92 rfl rfl ?_
  obtain ⟨z93, y93⟩ := row_at _ 5 hL rfl
  refine e_get 96 dX3_addRequest_93 rfl fl_X3_75_4 y93 rfl ?_
  refine p_callV 99 hL [1, 5, 0, 2, 3, 4] 6 rfl (by decide) (L1 := [row jr 253 ([]), row b cb p]) (L2 := [pt q37 (.inr (2, [.ref jr, .int (nI (v 9)), .int (nI ad), .int (nI 0), .int (nI ((fun _ => 0) 4)), .int (nI ((fun _ => 0) 5))])), lst slt (L1.eraseIdx ((h1 + RQ.length) % 16)), pt m (.inr (3, [.ref (A 0), .int (nI (v 1)), .int (nI (v 2)), .int (nI (v 3)), .int (nI (v 4)), .int (nI (v 5)), .ref (A 6), .int (nI h1), .int (nI (RQ.length + 1)), .int (nI (v 9)), .ref (A 10), .int (nI h2), .int (nI n2), .int (nI (v 13)), .int (nI (v 14)), .ref (A 15), .int (nI n3)])), pt (A 6) (.inl (4, 16, .inr (.inr (.inr (.inr (va_up (adJ L1) ((h1 + RQ.length) % 16) (some q37)))))))]) rfl row_O 1 rfl dX3_addRequest_96 rfl cv_X3_80 (k_all (cap := 253) (r2 := p) (by omega) (by omega)) rfl rfl (Nat.le_of_ble_eq_true rfl) ⟨by decide, by omega, by omega⟩ (fun r1 L1 h q hL => ?_)
  obtain ⟨rfl, rfl⟩ := q
  have hL : stars [row jr 253 p, row b cb p, pt q37 (.inr (2, [.ref jr, .int (nI (v 9)), .int (nI ad), .int (nI 0), .int (nI ((fun _ => 0) 4)), .int (nI ((fun _ => 0) 5))])), lst slt (L1.eraseIdx ((h1 + RQ.length) % 16)), pt m (.inr (3, [.ref (A 0), .int (nI (v 1)), .int (nI (v 2)), .int (nI (v 3)), .int (nI (v 4)), .int (nI (v 5)), .ref (A 6), .int (nI h1), .int (nI (RQ.length + 1)), .int (nI (v 9)), .ref (A 10), .int (nI h2), .int (nI n2), .int (nI (v 13)), .int (nI (v 14)), .ref (A 15), .int (nI n3)])), pt (A 6) (.inl (4, 16, .inr (.inr (.inr (.inr (va_up (adJ L1) ((h1 + RQ.length) % 16) (some q37)))))))] h := hL
  have hL : stars [pt q37 (.inr (2, [.ref jr, .int (nI (v 9)), .int (nI ad), .int (nI 0), .int (nI ((fun _ => 0) 4)), .int (nI ((fun _ => 0) 5))])), row jr 253 p, lst slt (L1.eraseIdx ((h1 + RQ.length) % 16)), pt m (.inr (3, [.ref (A 0), .int (nI (v 1)), .int (nI (v 2)), .int (nI (v 3)), .int (nI (v 4)), .int (nI (v 5)), .ref (A 6), .int (nI h1), .int (nI (RQ.length + 1)), .int (nI (v 9)), .ref (A 10), .int (nI h2), .int (nI n2), .int (nI (v 13)), .int (nI (v 14)), .ref (A 15), .int (nI n3)])), pt (A 6) (.inl (4, 16, .inr (.inr (.inr (.inr (va_up (adJ L1) ((h1 + RQ.length) % 16) (some q37))))))), row b cb p] h := stars_ixn hL 6 rfl [2, 0, 3, 4, 5, 1] (by decide) rfl
  refine e_aload_n 100 dX3_addRequest_99 rfl rfl ?_
  refine e_dup 101 dX3_addRequest_100 rfl rfl ?_
  refine e_get 104 dX3_addRequest_101 rfl fl_X3_59_3 (stars_at _ 3 hL rfl) rfl ?_
  refine e_iconst 105 (v := (nI 1)) dX3_addRequest_104 rfl (by decide) ?_
  refine e_iadd 106 (v := (nI ((v 9) + 1))) dX3_addRequest_105 rfl (nI_add (v 9) 1) ?_
  refine p_put 109 hL 3 (fs' := [.ref (A 0), .int (nI (v 1)), .int (nI (v 2)), .int (nI (v 3)), .int (nI (v 4)), .int (nI (v 5)), .ref (A 6), .int (nI h1), .int (nI (RQ.length + 1)), .int (nI ((v 9) + 1)), .ref (A 10), .int (nI h2), .int (nI n2), .int (nI (v 13)), .int (nI (v 14)), .ref (A 15), .int (nI n3)]) (L' := [pt q37 (.inr (2, [.ref jr, .int (nI (v 9)), .int (nI ad), .int (nI 0), .int (nI ((fun _ => 0) 4)), .int (nI ((fun _ => 0) 5))])), row jr 253 p, lst slt (L1.eraseIdx ((h1 + RQ.length) % 16)), pt m (.inr (3, [.ref (A 0), .int (nI (v 1)), .int (nI (v 2)), .int (nI (v 3)), .int (nI (v 4)), .int (nI (v 5)), .ref (A 6), .int (nI h1), .int (nI (RQ.length + 1)), .int (nI ((v 9) + 1)), .ref (A 10), .int (nI h2), .int (nI n2), .int (nI (v 13)), .int (nI (v 14)), .ref (A 15), .int (nI n3)])), pt (A 6) (.inl (4, 16, .inr (.inr (.inr (.inr (va_up (adJ L1) ((h1 + RQ.length) % 16) (some q37))))))), row b cb p]) rfl rfl dX3_addRequest_106 rfl fp_X3_59_3 (Or.inl rfl) (Nat.le_of_ble_eq_true rfl) rfl rfl rfl (fun h hL => ?_)
  refine e_aload 111 dX3_addRequest_109 rfl rfl ?_
  refine e_get 114 dX3_addRequest_111 rfl fl_X3_62_2 (stars_at _ 0 hL rfl) rfl ?_
  exact e_iret dX3_addRequest_114 rfl (by omega) (by omega) (⟨_, ⟨_, rfl, rfl⟩, by have hL9 := lst_c (f := slt) (x := some (q37, p, (upN (upN (upN (fun _ => 0) 1 (v 9)) 2 ad) 3 0))) ((h1 + RQ.length) % 16) (by omega) (job_c (upN (upN (upN (fun _ => 0) 1 (v 9)) 2 ad) 3 0) (stars_ixn hL 6 rfl [0, 1, 2, 3, 4, 5] (by decide) rfl)); rw [show va_up (adJ L1) ((h1 + RQ.length) % 16) (some q37) = adJ (L1.set ((h1 + RQ.length) % 16) (some (q37, p, (upN (upN (upN (fun _ => 0) 1 (v 9)) 2 ad) 3 0)))) from adJ_set (by omega) (some (q37, p, (upN (upN (upN (fun _ => 0) 1 (v 9)) 2 ad) 3 0)))] at hL9; exact stars_ixn hL9 4 rfl [1, 2, 0, 3] (by decide) rfl⟩)
set_option maxRecDepth 20000 in
set_option maxHeartbeats 2000000 in
theorem k_X3_addRequestS {m h1 h2 n2 n3 b cb ad : Nat} {A v : Nat → Nat} {L1 : List (Option JB)} {RQ : List RQE} {p : List Nat} (hr : ring 16 qd L1 h1 RQ) (hp : p.length ≤ 253) {j : JB} (hf : RQ.length < 16) (hs : L1[((h1 + RQ.length) % 16)]? = some (some j)) : CA mX3_addRequest [.ref m, .int (nI ad), .ref b] [pt m (.inr (3, [.ref (A 0), .int (nI (v 1)), .int (nI (v 2)), .int (nI (v 3)), .int (nI (v 4)), .int (nI (v 5)), .ref (A 6), .int (nI h1), .int (nI RQ.length), .int (nI (v 9)), .ref (A 10), .int (nI h2), .int (nI n2), .int (nI (v 13)), .int (nI (v 14)), .ref (A 15), .int (nI n3)])), pt (A 6) (.inl (4, 16, .inr (.inr (.inr (.inr (adJ L1)))))), lst slt L1, row b cb p] (fun r K => r = some (.int (nI (v 9))) ∧ K = [pt m (.inr (3, [.ref (A 0), .int (nI (v 1)), .int (nI (v 2)), .int (nI (v 3)), .int (nI (v 4)), .int (nI (v 5)), .ref (A 6), .int (nI h1), .int (nI (RQ.length + 1)), .int (nI (v 9 + 1)), .ref (A 10), .int (nI h2), .int (nI n2), .int (nI (v 13)), .int (nI (v 14)), .ref (A 15), .int (nI n3)])), pt (A 6) (.inl (4, 16, .inr (.inr (.inr (.inr (adJ (L1.set ((h1 + RQ.length) % 16) (some (j.1, p, (upN (upN (upN j.2.2 1 (v 9)) 2 ad) 3 0)))))))))), lst slt (L1.set ((h1 + RQ.length) % 16) (some (j.1, p, (upN (upN (upN j.2.2 1 (v 9)) 2 ad) 3 0)))), row b cb p]) 3 72 0 0 := by
  refine CA.mk 2 (ls := [some (.ref m), some (.int (nI ad)), some (.ref b), none, none]) rfl rfl (Nat.le_of_ble_eq_true rfl) rfl (fun h hL => ?_)
  have hc1 := hr.2.1
  have hc2 := hr.2.2.1
  have hc3 := hr.1
  have hpl : (h1 + RQ.length) % 16 < 16 := Nat.mod_lt _ (by decide)
  refine e_aload_n 1 dX3_addRequest_0 rfl rfl ?_
  refine e_get 4 dX3_addRequest_1 rfl fl_X3_46_3 (stars_at _ 0 hL rfl) rfl ?_
  refine e_bipush 6 (v := (nI 16)) dX3_addRequest_4 rfl (by decide) ?_
  refine e_icmp_lt 11 9 dX3_addRequest_6 rfl rfl (fun c6 => ?_) (fun c6 => absurd c6 (nI_nlt2 (by omega) (by omega) (by omega)))
  refine e_aload_n 12 dX3_addRequest_11 rfl rfl ?_
  refine e_get 15 dX3_addRequest_12 rfl fl_X3_49_3 (stars_at _ 0 hL rfl) rfl ?_
  refine e_aload_n 16 dX3_addRequest_15 rfl rfl ?_
  refine e_get 19 dX3_addRequest_16 rfl fl_X3_46_3 (stars_at _ 0 hL rfl) rfl ?_
  refine e_iadd 20 (v := (nI (h1 + RQ.length))) dX3_addRequest_19 rfl (nI_add h1 RQ.length) ?_
  refine e_bipush 22 (v := (nI 16)) dX3_addRequest_20 rfl (by decide) ?_
  refine e_irem 23 (v := (nI ((h1 + RQ.length) % 16))) dX3_addRequest_22 rfl (by decide) (pk_rem (by omega) (by decide) (by decide)) ?_
  refine e_istore_n 24 (ls' := [some (.ref m), some (.int (nI ad)), some (.ref b), some (.int (nI ((h1 + RQ.length) % 16))), none]) dX3_addRequest_23 rfl (by decide) rfl ?_
  refine e_aload_n 25 dX3_addRequest_24 rfl rfl ?_
  refine e_get 28 dX3_addRequest_25 rfl fl_X3_33_3 (stars_at _ 0 hL rfl) rfl ?_
  refine e_iload_n 29 dX3_addRequest_28 rfl rfl ?_
  refine e_aald 30 (v := .ref j.1) dX3_addRequest_29 rfl (stars_at _ 1 hL rfl) rfl (Or.inl ⟨_, rfl⟩) (vp_in_nI (by omega) (by omega)) (by rw [nI_clamp (by omega), adJ_at hs]; rfl) ?_
  refine e_astore 32 (ls' := [some (.ref m), some (.int (nI ad)), some (.ref b), some (.int (nI ((h1 + RQ.length) % 16))), some (.ref j.1)]) dX3_addRequest_30 rfl (by decide) rfl ?_
  refine e_aload 34 dX3_addRequest_32 rfl rfl ?_
  refine e_ifnonnull 54 dX3_addRequest_34 rfl ?_
  have hL : stars [lst slt L1, pt m (.inr (3, [.ref (A 0), .int (nI (v 1)), .int (nI (v 2)), .int (nI (v 3)), .int (nI (v 4)), .int (nI (v 5)), .ref (A 6), .int (nI h1), .int (nI RQ.length), .int (nI (v 9)), .ref (A 10), .int (nI h2), .int (nI n2), .int (nI (v 13)), .int (nI (v 14)), .ref (A 15), .int (nI n3)])), pt (A 6) (.inl (4, 16, .inr (.inr (.inr (.inr (adJ L1)))))), row b cb p] h := stars_ixn hL 4 rfl [2, 0, 1, 3] (by decide) rfl
  have hL := lst_o _ hs hL
  have hL : stars [job j.1 j.2.1 j.2.2, lst slt (L1.eraseIdx ((h1 + RQ.length) % 16)), pt m (.inr (3, [.ref (A 0), .int (nI (v 1)), .int (nI (v 2)), .int (nI (v 3)), .int (nI (v 4)), .int (nI (v 5)), .ref (A 6), .int (nI h1), .int (nI RQ.length), .int (nI (v 9)), .ref (A 10), .int (nI h2), .int (nI n2), .int (nI (v 13)), .int (nI (v 14)), .ref (A 15), .int (nI n3)])), pt (A 6) (.inl (4, 16, .inr (.inr (.inr (.inr (adJ L1)))))), row b cb p] h := hL
  obtain ⟨jr, hL⟩ := job_o hL
  have hL : stars [pt j.1 (.inr (2, [.ref jr, .int (nI (j.2.2 1)), .int (nI (j.2.2 2)), .int (nI (j.2.2 3)), .int (nI (j.2.2 4)), .int (nI (j.2.2 5))])), row jr 253 j.2.1, lst slt (L1.eraseIdx ((h1 + RQ.length) % 16)), pt m (.inr (3, [.ref (A 0), .int (nI (v 1)), .int (nI (v 2)), .int (nI (v 3)), .int (nI (v 4)), .int (nI (v 5)), .ref (A 6), .int (nI h1), .int (nI RQ.length), .int (nI (v 9)), .ref (A 10), .int (nI h2), .int (nI n2), .int (nI (v 13)), .int (nI (v 14)), .ref (A 15), .int (nI n3)])), pt (A 6) (.inl (4, 16, .inr (.inr (.inr (.inr (adJ L1)))))), row b cb p] h := hL
  refine e_aload_n 55 dX3_addRequest_54 rfl rfl ?_
  refine e_dup 56 dX3_addRequest_55 rfl rfl ?_
  refine e_get 59 dX3_addRequest_56 rfl fl_X3_46_3 (stars_at _ 3 hL rfl) rfl ?_
  refine e_iconst 60 (v := (nI 1)) dX3_addRequest_59 rfl (by decide) ?_
  refine e_iadd 61 (v := (nI (RQ.length + 1))) dX3_addRequest_60 rfl (nI_add RQ.length 1) ?_
  refine p_put 64 hL 3 (fs' := [.ref (A 0), .int (nI (v 1)), .int (nI (v 2)), .int (nI (v 3)), .int (nI (v 4)), .int (nI (v 5)), .ref (A 6), .int (nI h1), .int (nI (RQ.length + 1)), .int (nI (v 9)), .ref (A 10), .int (nI h2), .int (nI n2), .int (nI (v 13)), .int (nI (v 14)), .ref (A 15), .int (nI n3)]) (L' := [pt j.1 (.inr (2, [.ref jr, .int (nI (j.2.2 1)), .int (nI (j.2.2 2)), .int (nI (j.2.2 3)), .int (nI (j.2.2 4)), .int (nI (j.2.2 5))])), row jr 253 j.2.1, lst slt (L1.eraseIdx ((h1 + RQ.length) % 16)), pt m (.inr (3, [.ref (A 0), .int (nI (v 1)), .int (nI (v 2)), .int (nI (v 3)), .int (nI (v 4)), .int (nI (v 5)), .ref (A 6), .int (nI h1), .int (nI (RQ.length + 1)), .int (nI (v 9)), .ref (A 10), .int (nI h2), .int (nI n2), .int (nI (v 13)), .int (nI (v 14)), .ref (A 15), .int (nI n3)])), pt (A 6) (.inl (4, 16, .inr (.inr (.inr (.inr (adJ L1)))))), row b cb p]) rfl rfl dX3_addRequest_61 rfl fp_X3_46_3 (Or.inl rfl) (Nat.le_of_ble_eq_true rfl) rfl rfl rfl (fun h hL => ?_)
  refine e_aload 66 dX3_addRequest_64 rfl rfl ?_
  refine e_aload_n 67 dX3_addRequest_66 rfl rfl ?_
  refine e_get 70 dX3_addRequest_67 rfl fl_X3_59_3 (stars_at _ 3 hL rfl) rfl ?_
  refine p_put 73 hL 0 (fs' := [.ref jr, .int (nI (v 9)), .int (nI (j.2.2 2)), .int (nI (j.2.2 3)), .int (nI (j.2.2 4)), .int (nI (j.2.2 5))]) (L' := [pt j.1 (.inr (2, [.ref jr, .int (nI (v 9)), .int (nI (j.2.2 2)), .int (nI (j.2.2 3)), .int (nI (j.2.2 4)), .int (nI (j.2.2 5))])), row jr 253 j.2.1, lst slt (L1.eraseIdx ((h1 + RQ.length) % 16)), pt m (.inr (3, [.ref (A 0), .int (nI (v 1)), .int (nI (v 2)), .int (nI (v 3)), .int (nI (v 4)), .int (nI (v 5)), .ref (A 6), .int (nI h1), .int (nI (RQ.length + 1)), .int (nI (v 9)), .ref (A 10), .int (nI h2), .int (nI n2), .int (nI (v 13)), .int (nI (v 14)), .ref (A 15), .int (nI n3)])), pt (A 6) (.inl (4, 16, .inr (.inr (.inr (.inr (adJ L1)))))), row b cb p]) rfl rfl dX3_addRequest_70 rfl fp_X3_62_2 (Or.inl rfl) (Nat.le_of_ble_eq_true rfl) rfl rfl rfl (fun h hL => ?_)
  refine e_aload 75 dX3_addRequest_73 rfl rfl ?_
  refine e_iload_n 76 dX3_addRequest_75 rfl rfl ?_
  refine p_put 79 hL 0 (fs' := [.ref jr, .int (nI (v 9)), .int (nI ad), .int (nI (j.2.2 3)), .int (nI (j.2.2 4)), .int (nI (j.2.2 5))]) (L' := [pt j.1 (.inr (2, [.ref jr, .int (nI (v 9)), .int (nI ad), .int (nI (j.2.2 3)), .int (nI (j.2.2 4)), .int (nI (j.2.2 5))])), row jr 253 j.2.1, lst slt (L1.eraseIdx ((h1 + RQ.length) % 16)), pt m (.inr (3, [.ref (A 0), .int (nI (v 1)), .int (nI (v 2)), .int (nI (v 3)), .int (nI (v 4)), .int (nI (v 5)), .ref (A 6), .int (nI h1), .int (nI (RQ.length + 1)), .int (nI (v 9)), .ref (A 10), .int (nI h2), .int (nI n2), .int (nI (v 13)), .int (nI (v 14)), .ref (A 15), .int (nI n3)])), pt (A 6) (.inl (4, 16, .inr (.inr (.inr (.inr (adJ L1)))))), row b cb p]) rfl rfl dX3_addRequest_76 rfl fp_X3_65_2 (Or.inl rfl) (Nat.le_of_ble_eq_true rfl) rfl rfl rfl (fun h hL => ?_)
  refine e_aload 81 dX3_addRequest_79 rfl rfl ?_
  refine e_iconst 82 (v := (nI 0)) dX3_addRequest_81 rfl (by decide) ?_
  refine p_put 85 hL 0 (fs' := [.ref jr, .int (nI (v 9)), .int (nI ad), .int (nI 0), .int (nI (j.2.2 4)), .int (nI (j.2.2 5))]) (L' := [pt j.1 (.inr (2, [.ref jr, .int (nI (v 9)), .int (nI ad), .int (nI 0), .int (nI (j.2.2 4)), .int (nI (j.2.2 5))])), row jr 253 j.2.1, lst slt (L1.eraseIdx ((h1 + RQ.length) % 16)), pt m (.inr (3, [.ref (A 0), .int (nI (v 1)), .int (nI (v 2)), .int (nI (v 3)), .int (nI (v 4)), .int (nI (v 5)), .ref (A 6), .int (nI h1), .int (nI (RQ.length + 1)), .int (nI (v 9)), .ref (A 10), .int (nI h2), .int (nI n2), .int (nI (v 13)), .int (nI (v 14)), .ref (A 15), .int (nI n3)])), pt (A 6) (.inl (4, 16, .inr (.inr (.inr (.inr (adJ L1)))))), row b cb p]) rfl rfl dX3_addRequest_82 rfl fp_X3_68_2 (Or.inl rfl) (Nat.le_of_ble_eq_true rfl) rfl rfl rfl (fun h hL => ?_)
  refine e_aload 87 dX3_addRequest_85 rfl rfl ?_
  refine e_get 90 dX3_addRequest_87 rfl fl_X3_71_2 (stars_at _ 0 hL rfl) rfl ?_
  refine e_aload_n 91 dX3_addRequest_90 rfl rfl ?_
  refine e_iconst 92 (v := (nI 0)) dX3_addRequest_91 rfl (by decide) ?_
  refine e_aload_n 93 dX3_addRequest_92 rfl rfl ?_
  obtain ⟨z93, y93⟩ := row_at _ 5 hL rfl
  refine e_get 96 dX3_addRequest_93 rfl fl_X3_75_4 y93 rfl ?_
  refine p_callV 99 hL [1, 5, 0, 2, 3, 4] 6 rfl (by decide) (L1 := [row jr 253 j.2.1, row b cb p]) (L2 := [pt j.1 (.inr (2, [.ref jr, .int (nI (v 9)), .int (nI ad), .int (nI 0), .int (nI (j.2.2 4)), .int (nI (j.2.2 5))])), lst slt (L1.eraseIdx ((h1 + RQ.length) % 16)), pt m (.inr (3, [.ref (A 0), .int (nI (v 1)), .int (nI (v 2)), .int (nI (v 3)), .int (nI (v 4)), .int (nI (v 5)), .ref (A 6), .int (nI h1), .int (nI (RQ.length + 1)), .int (nI (v 9)), .ref (A 10), .int (nI h2), .int (nI n2), .int (nI (v 13)), .int (nI (v 14)), .ref (A 15), .int (nI n3)])), pt (A 6) (.inl (4, 16, .inr (.inr (.inr (.inr (adJ L1))))))]) rfl row_O 1 rfl dX3_addRequest_96 rfl cv_X3_80 (k_all (cap := 253) (r2 := p) (by omega) (by omega)) rfl rfl (Nat.le_of_ble_eq_true rfl) ⟨by decide, by omega, by omega⟩ (fun r1 L1 h q hL => ?_)
  obtain ⟨rfl, rfl⟩ := q
  have hL : stars [row jr 253 p, row b cb p, pt j.1 (.inr (2, [.ref jr, .int (nI (v 9)), .int (nI ad), .int (nI 0), .int (nI (j.2.2 4)), .int (nI (j.2.2 5))])), lst slt (L1.eraseIdx ((h1 + RQ.length) % 16)), pt m (.inr (3, [.ref (A 0), .int (nI (v 1)), .int (nI (v 2)), .int (nI (v 3)), .int (nI (v 4)), .int (nI (v 5)), .ref (A 6), .int (nI h1), .int (nI (RQ.length + 1)), .int (nI (v 9)), .ref (A 10), .int (nI h2), .int (nI n2), .int (nI (v 13)), .int (nI (v 14)), .ref (A 15), .int (nI n3)])), pt (A 6) (.inl (4, 16, .inr (.inr (.inr (.inr (adJ L1))))))] h := hL
  have hL : stars [pt j.1 (.inr (2, [.ref jr, .int (nI (v 9)), .int (nI ad), .int (nI 0), .int (nI (j.2.2 4)), .int (nI (j.2.2 5))])), row jr 253 p, lst slt (L1.eraseIdx ((h1 + RQ.length) % 16)), pt m (.inr (3, [.ref (A 0), .int (nI (v 1)), .int (nI (v 2)), .int (nI (v 3)), .int (nI (v 4)), .int (nI (v 5)), .ref (A 6), .int (nI h1), .int (nI (RQ.length + 1)), .int (nI (v 9)), .ref (A 10), .int (nI h2), .int (nI n2), .int (nI (v 13)), .int (nI (v 14)), .ref (A 15), .int (nI n3)])), pt (A 6) (.inl (4, 16, .inr (.inr (.inr (.inr (adJ L1)))))), row b cb p] h := stars_ixn hL 6 rfl [2, 0, 3, 4, 5, 1] (by decide) rfl
  refine e_aload_n 100 dX3_addRequest_99 rfl rfl ?_
  refine e_dup 101 dX3_addRequest_100 rfl rfl ?_
  refine e_get 104 dX3_addRequest_101 rfl fl_X3_59_3 (stars_at _ 3 hL rfl) rfl ?_
  refine e_iconst 105 (v := (nI 1)) dX3_addRequest_104 rfl (by decide) ?_
  refine e_iadd 106 (v := (nI ((v 9) + 1))) dX3_addRequest_105 rfl (nI_add (v 9) 1) ?_
  refine p_put 109 hL 3 (fs' := [.ref (A 0), .int (nI (v 1)), .int (nI (v 2)), .int (nI (v 3)), .int (nI (v 4)), .int (nI (v 5)), .ref (A 6), .int (nI h1), .int (nI (RQ.length + 1)), .int (nI ((v 9) + 1)), .ref (A 10), .int (nI h2), .int (nI n2), .int (nI (v 13)), .int (nI (v 14)), .ref (A 15), .int (nI n3)]) (L' := [pt j.1 (.inr (2, [.ref jr, .int (nI (v 9)), .int (nI ad), .int (nI 0), .int (nI (j.2.2 4)), .int (nI (j.2.2 5))])), row jr 253 p, lst slt (L1.eraseIdx ((h1 + RQ.length) % 16)), pt m (.inr (3, [.ref (A 0), .int (nI (v 1)), .int (nI (v 2)), .int (nI (v 3)), .int (nI (v 4)), .int (nI (v 5)), .ref (A 6), .int (nI h1), .int (nI (RQ.length + 1)), .int (nI ((v 9) + 1)), .ref (A 10), .int (nI h2), .int (nI n2), .int (nI (v 13)), .int (nI (v 14)), .ref (A 15), .int (nI n3)])), pt (A 6) (.inl (4, 16, .inr (.inr (.inr (.inr (adJ L1)))))), row b cb p]) rfl rfl dX3_addRequest_106 rfl fp_X3_59_3 (Or.inl rfl) (Nat.le_of_ble_eq_true rfl) rfl rfl rfl (fun h hL => ?_)
  refine e_aload 111 dX3_addRequest_109 rfl rfl ?_
  refine e_get 114 dX3_addRequest_111 rfl fl_X3_62_2 (stars_at _ 0 hL rfl) rfl ?_
  exact e_iret dX3_addRequest_114 rfl (by omega) (by omega) (⟨_, ⟨rfl, rfl⟩, by have hL9 := lst_c (f := slt) (x := some (j.1, p, (upN (upN (upN j.2.2 1 (v 9)) 2 ad) 3 0))) ((h1 + RQ.length) % 16) (by omega) (job_c (upN (upN (upN j.2.2 1 (v 9)) 2 ad) 3 0) (stars_ixn hL 6 rfl [0, 1, 2, 3, 4, 5] (by decide) rfl)); rw [show adJ L1 = adJ (L1.set ((h1 + RQ.length) % 16) (some (j.1, p, (upN (upN (upN j.2.2 1 (v 9)) 2 ad) 3 0)))) from (va_up_id (f := adJ L1) (i := ((h1 + RQ.length) % 16)) (x := some j.1) (adJ_at hs)).symm.trans (adJ_set (by omega) (some (j.1, p, (upN (upN (upN j.2.2 1 (v 9)) 2 ad) 3 0))))] at hL9; exact stars_ixn hL9 4 rfl [1, 2, 0, 3] (by decide) rfl⟩)
