/-! an array may be told by another function that agrees within its length -/
theorem arr_ext {c n : Nat} {f g : Nat → Int32} (h : ∀ j, j < n → f j = g j) : vp_cell c (n, .inl f) = vp_cell c (n, .inl g) := by
  rw [vp_cell_i, vp_cell_i]
  unfold arrV
  congr 1
  congr 1
  funext j
  exact congrArg Value.int (h j.val j.isLt)
theorem e_ext {M : MD} {fr lo mc ms : Nat} {Q : Option Value → eH → Prop} {pc ce sl : Nat} {ls : List (Option Value)} {st : List Value} {h : eH} {a n : Nat} {f g : Nat → Int32} (ha : h a = some (.inl (0, n, .inl f))) (hfg : ∀ j, j < n → f j = g j) (k : EE M fr lo mc ms Q pc ls st (e_up h a (.inl (0, n, .inl g))) ce sl) : EE M fr lo mc ms Q pc ls st h ce sl := by
  intro p l e s m args below meth c H locs D cA A lsA X R S L
  refine k p l e s m args below meth c H locs D cA A lsA X ?_ S L
  have h1 := R a _ ha
  exact R.up h1.1 (show H[a]? = some (vp_cell _ _) by rw [← arr_ext hfg]; exact h1.2) (fun q _ => rfl)
theorem p_ext {M : MD} {fr lo mc ms : Nat} {Q : Option Value → eH → Prop} {pc ce sl : Nat} {ls : List (Option Value)} {st : List Value} {h : eH} {L L' : List sA} (hL : stars L h) (i : Nat) {a n : Nat} {f : Nat → Int32} (hi : L[i]? = some (pt a (.inl (0, n, .inl f)))) (g : Nat → Int32) (hL' : L.set i (pt a (.inl (0, n, .inl g))) = L') (hfg : ∀ j, j < n → f j = g j) (kk : ∀ h' : eH, stars L' h' → EE M fr lo mc ms Q pc ls st h' ce sl) : EE M fr lo mc ms Q pc ls st h ce sl := e_ext (stars_at L i hL hi) hfg (kk _ (hL' ▸ stars_set L i hL hi))
/-! ints by naturals -/
abbrev pI (a n : Nat) (g : Nat → Nat) : sA := pt a (.inl (0, n, .inl (fun i => nI (g i))))
theorem upd_nI {g : Nat → Nat} {k x : Nat} : upd (fun i => nI (g i)) k (nI x) = fun i => nI (upN g k x i) := by
  funext i
  by_cases e : i = k
  · subst e; rw [pk_us]; simp [upN]
  · rw [pk_un e]; simp [upN, e]
/-! Job, Scan -/
def job (j : Nat) (p : List Nat) (v : Nat → Nat) : sA := fun h => ∃ a, stars [pt j (.inr (2, [.ref a, .int (nI (v 1)), .int (nI (v 2)), .int (nI (v 3)), .int (nI (v 4)), .int (nI (v 5))])), row a 253 p] h
theorem job_O {j : Nat} {p : List Nat} {v : Nat → Nat} : isO (job j p v) j 2 := by
  rintro h ⟨a, k⟩
  exact ⟨_, stars_at _ 0 k rfl⟩
theorem job_o {j : Nat} {p : List Nat} {v : Nat → Nat} {L : List sA} {h : eH} (k : stars (job j p v :: L) h) : ∃ a, stars (pt j (.inr (2, [.ref a, .int (nI (v 1)), .int (nI (v 2)), .int (nI (v 3)), .int (nI (v 4)), .int (nI (v 5))])) :: row a 253 p :: L) h := by
  obtain ⟨h1, h2, hu, hj, ⟨a, k⟩, q⟩ := k
  exact ⟨a, (stars_app [_, _] L).mpr ⟨h1, h2, hu, hj, k, q⟩⟩
theorem job_c {j a : Nat} {p : List Nat} (v : Nat → Nat) {L : List sA} {h : eH} (k : stars (pt j (.inr (2, [.ref a, .int (nI (v 1)), .int (nI (v 2)), .int (nI (v 3)), .int (nI (v 4)), .int (nI (v 5))])) :: row a 253 p :: L) h) : stars (job j p v :: L) h := stars_close (K := [_, _]) k (fun h' k' => ⟨a, k'⟩)
/-- a scan: PDU, ticks, address, time, the former request (none: -1) -/
def scn (s : Nat) (p : List Nat) (ev ad ti : Nat) (fo : Option Nat) : sA := fun h => ∃ a, stars [pt s (.inr (5, [.ref a, .int (nI ev), .int (nI ad), .int (nI ti), .int (oI fo)])), row a 253 p] h
theorem scn_O {s ev ad ti : Nat} {p : List Nat} {fo : Option Nat} : isO (scn s p ev ad ti fo) s 5 := by
  rintro h ⟨a, k⟩
  exact ⟨_, stars_at _ 0 k rfl⟩
theorem scn_o {s ev ad ti : Nat} {p : List Nat} {fo : Option Nat} {L : List sA} {h : eH} (k : stars (scn s p ev ad ti fo :: L) h) : ∃ a, stars (pt s (.inr (5, [.ref a, .int (nI ev), .int (nI ad), .int (nI ti), .int (oI fo)])) :: row a 253 p :: L) h := by
  obtain ⟨h1, h2, hu, hj, ⟨a, k⟩, q⟩ := k
  exact ⟨a, (stars_app [_, _] L).mpr ⟨h1, h2, hu, hj, k, q⟩⟩
theorem scn_c {s a ev ad ti : Nat} {p : List Nat} (fo : Option Nat) {L : List sA} {h : eH} (k : stars (pt s (.inr (5, [.ref a, .int (nI ev), .int (nI ad), .int (nI ti), .int (oI fo)])) :: row a 253 p :: L) h) : stars (scn s p ev ad ti fo :: L) h := stars_close (K := [_, _]) k (fun h' k' => ⟨a, k'⟩)
set_option maxRecDepth 20000 in
set_option maxHeartbeats 2000000 in
/-- Job() -/
theorem k_X2_init {j : Nat} : CA mX2_init [.ref j] [pt j (.inr (2, [.null, .int 0, .int 0, .int 0, .int 0, .int 0]))] (fun x L => x = none ∧ L = [job j [] (fun _ => 0)]) 2 41 2 255 := by
  refine CA.mk 0 (ls := [some (.ref j)]) rfl rfl (Nat.le_of_ble_eq_true rfl) rfl (fun h hL => ?_)
  refine e_aload_n 1 dX2_init_0 rfl rfl ?_
  refine e_objInit 4 dX2_init_1 rfl oi_X2_3 (by decide) (Nat.le_of_ble_eq_true rfl) ?_
  refine e_aload_n 5 dX2_init_4 rfl rfl ?_
  refine p_new 8 2 hL rfl dX2_init_5 rfl nc_X2_9 (by omega) (by omega) (fun q5 h hL => ?_)
  have hL : stars [pt q5 (.inr (4, [.null, .int 0])), pt j (.inr (2, [.null, .int 0, .int 0, .int 0, .int 0, .int 0]))] h := hL
  refine e_dup 9 dX2_init_8 rfl rfl ?_
  refine e_sipush 12 (v := (nI 253)) dX2_init_9 rfl (by decide) ?_
  refine p_callI 15 hL [0, 1] 2 rfl (by decide) (L1 := [pt q5 (.inr (4, [.null, .int 0]))]) (L2 := [pt j (.inr (2, [.null, .int 0, .int 0, .int 0, .int 0, .int 0]))]) rfl dX2_init_12 rfl ci_X2_11 (k_X4_init (by decide)) rfl rfl (Nat.le_of_ble_eq_true rfl) ⟨by decide, by omega, by omega⟩ (fun r1 L1 h q hL => ?_)
  obtain ⟨rfl, rfl⟩ := q
  have hL : stars [row q5 253 ([]), pt j (.inr (2, [.null, .int 0, .int 0, .int 0, .int 0, .int 0]))] h := hL
  refine p_put 18 hL 1 (fs' := [.ref q5, .int 0, .int 0, .int 0, .int 0, .int 0]) (L' := [row q5 253 ([]), pt j (.inr (2, [.ref q5, .int 0, .int 0, .int 0, .int 0, .int 0]))]) rfl rfl dX2_init_15 rfl fp_X2_14_2 (Or.inr rfl) (Nat.le_of_ble_eq_true rfl) rfl rfl rfl (fun h hL => ?_)
  exact e_vret dX2_init_18 rfl (by omega) (by omega) (⟨_, ⟨rfl, rfl⟩, job_c (fun _ => 0) (L := []) (stars_ix hL [1, 0] rfl rfl)⟩)
set_option maxRecDepth 20000 in
set_option maxHeartbeats 2000000 in
/-- Scan(every, time, address, pdu) -/
theorem k_X5_init {s ev ti ad b cb : Nat} {p : List Nat} (hp : p.length ≤ 253) : CA mX5_init [.ref s, .int (nI ev), .int (nI ti), .int (nI ad), .ref b] [pt s (.inr (5, [.null, .int 0, .int 0, .int 0, .int 0])), row b cb p] (fun x L => x = none ∧ L = [scn s p ev ad ti none, row b cb p]) 2 48 2 255 := by
  refine CA.mk 0 (ls := [some (.ref s), some (.int (nI ev)), some (.int (nI ti)), some (.int (nI ad)), some (.ref b)]) rfl rfl (Nat.le_of_ble_eq_true rfl) rfl (fun h hL => ?_)
  refine e_aload_n 1 dX5_init_0 rfl rfl ?_
  refine e_objInit 4 dX5_init_1 rfl oi_X5_3 (by decide) (Nat.le_of_ble_eq_true rfl) ?_
  refine e_aload_n 5 dX5_init_4 rfl rfl ?_
  refine p_new 8 2 hL rfl dX5_init_5 rfl nc_X5_9 (by omega) (by omega) (fun q5 h hL => ?_)
  have hL : stars [pt q5 (.inr (4, [.null, .int 0])), pt s (.inr (5, [.null, .int 0, .int 0, .int 0, .int 0])), row b cb p] h := hL
  refine e_dup 9 dX5_init_8 rfl rfl ?_
  refine e_sipush 12 (v := (nI 253)) dX5_init_9 rfl (by decide) ?_
  refine p_callI 15 hL [0, 1, 2] 3 rfl (by decide) (L1 := [pt q5 (.inr (4, [.null, .int 0]))]) (L2 := [pt s (.inr (5, [.null, .int 0, .int 0, .int 0, .int 0])), row b cb p]) rfl dX5_init_12 rfl ci_X5_11 (k_X4_init (by decide)) rfl rfl (Nat.le_of_ble_eq_true rfl) ⟨by decide, by omega, by omega⟩ (fun r1 L1 h q hL => ?_)
  obtain ⟨rfl, rfl⟩ := q
  have hL : stars [row q5 253 ([]), pt s (.inr (5, [.null, .int 0, .int 0, .int 0, .int 0])), row b cb p] h := hL
  refine p_put 18 hL 1 (fs' := [.ref q5, .int 0, .int 0, .int 0, .int 0]) (L' := [row q5 253 ([]), pt s (.inr (5, [.ref q5, .int 0, .int 0, .int 0, .int 0])), row b cb p]) rfl rfl dX5_init_15 rfl fp_X5_14_5 (Or.inr rfl) (Nat.le_of_ble_eq_true rfl) rfl rfl rfl (fun h hL => ?_)
  refine e_aload_n 19 dX5_init_18 rfl rfl ?_
  refine e_get 22 dX5_init_19 rfl fl_X5_14_5 (stars_at _ 1 hL rfl) rfl ?_
  refine e_aload 24 dX5_init_22 rfl rfl ?_
  refine e_iconst 25 (v := (nI 0)) dX5_init_24 rfl (by decide) ?_
  refine e_aload 27 dX5_init_25 rfl rfl ?_
  obtain ⟨z27, y27⟩ := row_at _ 2 hL rfl
  refine e_get 30 dX5_init_27 rfl fl_X5_20_4 y27 rfl ?_
  refine p_callV 33 hL [0, 2, 1] 3 rfl (by decide) (L1 := [row q5 253 ([]), row b cb p]) (L2 := [pt s (.inr (5, [.ref q5, .int 0, .int 0, .int 0, .int 0]))]) rfl row_O 0 rfl dX5_init_30 rfl cv_X5_24 (k_X4_become (by omega) (by omega)) rfl rfl (Nat.le_of_ble_eq_true rfl) ⟨by decide, by omega, by omega⟩ (fun r1 L1 h q hL => ?_)
  obtain ⟨rfl, rfl⟩ := q
  have hL : stars [row q5 253 ((pf p 0 p.length).take 253), row b cb p, pt s (.inr (5, [.ref q5, .int 0, .int 0, .int 0, .int 0]))] h := hL
  have hL : stars [row q5 253 ((pf p 0 p.length).take 253), pt s (.inr (5, [.ref q5, .int 0, .int 0, .int 0, .int 0])), row b cb p] h := stars_ixn hL 3 rfl [0, 2, 1] (by decide) rfl
  rw [pf_self, List.take_of_length_le hp] at hL
  have hL : stars [row q5 253 p, pt s (.inr (5, [.ref q5, .int 0, .int 0, .int 0, .int 0])), row b cb p] h := hL
  refine e_aload_n 34 dX5_init_33 rfl rfl ?_
  refine e_iload_n 35 dX5_init_34 rfl rfl ?_
  refine p_put 38 hL 1 (fs' := [.ref q5, .int (nI ev), .int 0, .int 0, .int 0]) (L' := [row q5 253 p, pt s (.inr (5, [.ref q5, .int (nI ev), .int 0, .int 0, .int 0])), row b cb p]) rfl rfl dX5_init_35 rfl fp_X5_28_5 (Or.inr rfl) (Nat.le_of_ble_eq_true rfl) rfl rfl rfl (fun h hL => ?_)
  refine e_aload_n 39 dX5_init_38 rfl rfl ?_
  refine e_iload_n 40 dX5_init_39 rfl rfl ?_
  refine p_put 43 hL 1 (fs' := [.ref q5, .int (nI ev), .int (nI ad), .int 0, .int 0]) (L' := [row q5 253 p, pt s (.inr (5, [.ref q5, .int (nI ev), .int (nI ad), .int 0, .int 0])), row b cb p]) rfl rfl dX5_init_40 rfl fp_X5_31_5 (Or.inr rfl) (Nat.le_of_ble_eq_true rfl) rfl rfl rfl (fun h hL => ?_)
  refine e_aload_n 44 dX5_init_43 rfl rfl ?_
  refine e_iload_n 45 dX5_init_44 rfl rfl ?_
  refine p_put 48 hL 1 (fs' := [.ref q5, .int (nI ev), .int (nI ad), .int (nI ti), .int 0]) (L' := [row q5 253 p, pt s (.inr (5, [.ref q5, .int (nI ev), .int (nI ad), .int (nI ti), .int 0])), row b cb p]) rfl rfl dX5_init_45 rfl fp_X5_34_5 (Or.inl rfl) (Nat.le_of_ble_eq_true rfl) rfl rfl rfl (fun h hL => ?_)
  refine e_aload_n 49 dX5_init_48 rfl rfl ?_
  refine e_iconst 50 (v := (-1)) dX5_init_49 rfl (by decide) ?_
  refine p_put 53 hL 1 (fs' := [.ref q5, .int (nI ev), .int (nI ad), .int (nI ti), .int (-1)]) (L' := [row q5 253 p, pt s (.inr (5, [.ref q5, .int (nI ev), .int (nI ad), .int (nI ti), .int (-1)])), row b cb p]) rfl rfl dX5_init_50 rfl fp_X5_37_5 (Or.inl rfl) (Nat.le_of_ble_eq_true rfl) rfl rfl rfl (fun h hL => ?_)
  exact e_vret dX5_init_53 rfl (by omega) (by omega) (⟨_, ⟨rfl, rfl⟩, scn_c none (L := [row b cb p]) (stars_ix hL [1, 0, 2] rfl rfl)⟩)
/-! Device: the object's fields: A i the address in field i, v i the number in field i, df whether it is deaf -/
abbrev dvF (A v : Nat → Nat) (df : Bool) : List Value := [.int (nI (v 0)), .int (nI (v 1)), .int (nI (v 2)), .ref (A 3), .ref (A 4), .ref (A 5), .ref (A 6), .ref (A 7), .int (nI (v 8)), .ref (A 9), .ref (A 10), .ref (A 11), .ref (A 12), .ref (A 13), .ref (A 14), .ref (A 15), .ref (A 16), .int (nI (v 17)), .int (nI (v 18)), .int (bI df)]
abbrev dvO (d : Nat) (A v : Nat → Nat) (df : Bool) : sA := pt d (.inr (1, dvF A v df))
set_option maxRecDepth 20000 in
set_option maxHeartbeats 2000000 in
/-- counterOf(k) -/
theorem k_X1_counterOf {d : Nat} {A v : Nat → Nat} {df : Bool} {ct : Nat → Nat} {k : Nat} (hk : k < 9) : CA mX1_counterOf [.ref d, .int (nI k)] [dvO d A v df, pI (A 13) 9 ct] (fun x L => x = some (.int (nI (ct k))) ∧ L = [dvO d A v df, pI (A 13) 9 ct]) 0 0 0 0 := by
  refine CA.mk 0 (ls := [some (.ref d), some (.int (nI k))]) rfl rfl (Nat.le_of_ble_eq_true rfl) rfl (fun h hL => ?_)
  refine e_iload_n 1 dX1_counterOf_0 rfl rfl ?_
  refine e_if_lt 19 4 dX1_counterOf_1 rfl rfl (fun c1 => absurd c1 (nI_pos (by omega))) (fun c1 => ?_)
  refine e_iload_n 5 dX1_counterOf_4 rfl rfl ?_
  refine e_bipush 7 (v := (nI 9)) dX1_counterOf_5 rfl (by decide) ?_
  refine e_icmp_ge 19 10 dX1_counterOf_7 rfl rfl (fun c7 => absurd c7 (fun z => absurd (j_ge_t (a := k) (b := 9) (by omega) (by omega) z) (by omega))) (fun c7 => ?_)
  refine e_aload_n 11 dX1_counterOf_10 rfl rfl ?_
  refine e_get 14 dX1_counterOf_11 rfl fl_X1_66_1 (stars_at _ 0 hL rfl) rfl ?_
  refine e_iload_n 15 dX1_counterOf_14 rfl rfl ?_
  refine e_iald 16 (v := (nI (ct k))) dX1_counterOf_15 rfl (stars_at _ 1 hL rfl) (vp_in_nI (by omega) (by omega)) (by show nI (ct _) = _; rw [nI_clamp (by omega)]) ?_
  refine e_goto 20 dX1_counterOf_16 rfl ?_
  exact e_iret dX1_counterOf_20 rfl (by omega) (by omega) (⟨_, ⟨rfl, rfl⟩, hL⟩)
set_option maxRecDepth 20000 in
set_option maxHeartbeats 2000000 in
/-- count(k) -/
theorem k_X1_count {d : Nat} {A v : Nat → Nat} {df : Bool} {ct : Nat → Nat} {k : Nat} (hk : k < 9) (hc : ct k < 65536) : CA mX1_count [.ref d, .int (nI k)] [dvO d A v df, pI (A 13) 9 ct] (fun x L => x = none ∧ L = [dvO d A v df, pI (A 13) 9 (upN ct k ((ct k + 1) % 2 ^ 16))]) 0 0 0 0 := by
  refine CA.mk 0 (ls := [some (.ref d), some (.int (nI k))]) rfl rfl (Nat.le_of_ble_eq_true rfl) rfl (fun h hL => ?_)
  refine e_iload_n 1 dX1_count_0 rfl rfl ?_
  refine e_if_lt 27 4 dX1_count_1 rfl rfl (fun c1 => absurd c1 (nI_pos (by omega))) (fun c1 => ?_)
  refine e_iload_n 5 dX1_count_4 rfl rfl ?_
  refine e_bipush 7 (v := (nI 9)) dX1_count_5 rfl (by decide) ?_
  refine e_icmp_ge 27 10 dX1_count_7 rfl rfl (fun c7 => absurd c7 (fun z => absurd (j_ge_t (a := k) (b := 9) (by omega) (by omega) z) (by omega))) (fun c7 => ?_)
  refine e_aload_n 11 dX1_count_10 rfl rfl ?_
  refine e_get 14 dX1_count_11 rfl fl_X1_66_1 (stars_at _ 0 hL rfl) rfl ?_
  refine e_iload_n 15 dX1_count_14 rfl rfl ?_
  refine e_aload_n 16 dX1_count_15 rfl rfl ?_
  refine e_get 19 dX1_count_16 rfl fl_X1_66_1 (stars_at _ 0 hL rfl) rfl ?_
  refine e_iload_n 20 dX1_count_19 rfl rfl ?_
  refine e_iald 21 (v := (nI (ct k))) dX1_count_20 rfl (stars_at _ 1 hL rfl) (vp_in_nI (by omega) (by omega)) (by show nI (ct _) = _; rw [nI_clamp (by omega)]) ?_
  refine e_iconst 22 (v := (nI 1)) dX1_count_21 rfl (by decide) ?_
  refine e_iadd 23 (v := (nI ((ct k) + 1))) dX1_count_22 rfl (nI_add (ct k) 1) ?_
  refine e_ldc 25 (v := (nI 65535)) dX1_count_23 rfl cn_X1_33 ?_
  refine e_iand 26 (v := (nI ((ct k + 1) % 2 ^ 16))) dX1_count_25 rfl (pk_andN (by omega) 16 (by decide)) ?_
  refine p_iast 27 hL 1 (k := k) (L' := [pt d (.inr (1, [.int (nI (v 0)), .int (nI (v 1)), .int (nI (v 2)), .ref (A 3), .ref (A 4), .ref (A 5), .ref (A 6), .ref (A 7), .int (nI (v 8)), .ref (A 9), .ref (A 10), .ref (A 11), .ref (A 12), .ref (A 13), .ref (A 14), .ref (A 15), .ref (A 16), .int (nI (v 17)), .int (nI (v 18)), .int (bI df)])), pt (A 13) (.inl (0, 9, .inl (upd (fun i => nI (ct i)) k (nI ((ct k + 1) % 2 ^ 16)))))]) rfl rfl dX1_count_26 rfl (vp_in_nI (by omega) (by omega)) (nI_clamp (by omega)) (fun h hL => ?_)
  exact e_vret dX1_count_27 rfl (by omega) (by omega) (⟨_, ⟨rfl, rfl⟩, by rw [upd_nI] at hL; exact hL⟩)
set_option maxRecDepth 20000 in
set_option maxHeartbeats 2000000 in
/-- addRule(kind, a, b, c) -/
theorem k_X1_addRule {d : Nat} {A v : Nat → Nat} {df : Bool} {ru : List Nat} {a b c e : Nat} (h4 : ru.length % 4 = 0) : CA mX1_addRule [.ref d, .int (nI a), .int (nI b), .int (nI c), .int (nI e)] [dvO d A v df, row (A 12) 48 ru] (fun x L => x = some (.int (bI (decide (ru.length < 48)))) ∧ L = [dvO d A v df, row (A 12) 48 (if ru.length < 48 then ru ++ [a, b, c, e] else ru)]) 1 21 0 0 := by
  refine CA.mk 0 (ls := [some (.ref d), some (.int (nI a)), some (.int (nI b)), some (.int (nI c)), some (.int (nI e))]) rfl rfl (Nat.le_of_ble_eq_true rfl) rfl (fun h hL => ?_)
  have hlen := row_len _ 1 hL rfl
  refine e_aload_n 1 dX1_addRule_0 rfl rfl ?_
  refine e_get 4 dX1_addRule_1 rfl fl_X1_62_1 (stars_at _ 0 hL rfl) rfl ?_
  obtain ⟨z4, y4⟩ := row_at _ 1 hL rfl
  refine e_get 7 dX1_addRule_4 rfl fl_X1_119_4 y4 rfl ?_
  refine e_bipush 9 (v := (nI 48)) dX1_addRule_7 rfl (by decide) ?_
  refine e_icmp_lt 14 12 dX1_addRule_9 rfl rfl (fun c9 => ?_) (fun c9 => ?_)
  · have k9 := j_lt_t (a := ru.length) (b := 48) (by omega) (by omega) c9
    refine e_aload_n 15 dX1_addRule_14 rfl rfl ?_
    refine e_get 18 dX1_addRule_15 rfl fl_X1_62_1 (stars_at _ 0 hL rfl) rfl ?_
    refine e_iload_n 19 dX1_addRule_18 rfl rfl ?_
    refine p_callV 22 hL [1, 0] 2 rfl (by decide) (L1 := [row (A 12) 48 ru]) (L2 := [pt d (.inr (1, [.int (nI (v 0)), .int (nI (v 1)), .int (nI (v 2)), .ref (A 3), .ref (A 4), .ref (A 5), .ref (A 6), .ref (A 7), .int (nI (v 8)), .ref (A 9), .ref (A 10), .ref (A 11), .ref (A 12), .ref (A 13), .ref (A 14), .ref (A 15), .ref (A 16), .int (nI (v 17)), .int (nI (v 18)), .int (bI df)]))]) rfl row_O 1 rfl dX1_addRule_19 rfl cv_X1_133 k_X4_add rfl rfl (Nat.le_of_ble_eq_true rfl) ⟨by decide, by omega, by omega⟩ (fun r1 L1 h q hL => ?_)
    obtain ⟨rfl, rfl⟩ := q
    have hL : stars [row (A 12) 48 (if ru.length < 48 then ru ++ [a] else ru), pt d (.inr (1, [.int (nI (v 0)), .int (nI (v 1)), .int (nI (v 2)), .ref (A 3), .ref (A 4), .ref (A 5), .ref (A 6), .ref (A 7), .int (nI (v 8)), .ref (A 9), .ref (A 10), .ref (A 11), .ref (A 12), .ref (A 13), .ref (A 14), .ref (A 15), .ref (A 16), .int (nI (v 17)), .int (nI (v 18)), .int (bI df)]))] h := hL
    rw [if_pos (by (try simp only [List.length_append, List.length_cons, List.length_nil]); omega)] at hL
    have hL : stars [row (A 12) 48 (ru ++ [a]), pt d (.inr (1, [.int (nI (v 0)), .int (nI (v 1)), .int (nI (v 2)), .ref (A 3), .ref (A 4), .ref (A 5), .ref (A 6), .ref (A 7), .int (nI (v 8)), .ref (A 9), .ref (A 10), .ref (A 11), .ref (A 12), .ref (A 13), .ref (A 14), .ref (A 15), .ref (A 16), .int (nI (v 17)), .int (nI (v 18)), .int (bI df)]))] h := hL
    have hL : stars [pt d (.inr (1, [.int (nI (v 0)), .int (nI (v 1)), .int (nI (v 2)), .ref (A 3), .ref (A 4), .ref (A 5), .ref (A 6), .ref (A 7), .int (nI (v 8)), .ref (A 9), .ref (A 10), .ref (A 11), .ref (A 12), .ref (A 13), .ref (A 14), .ref (A 15), .ref (A 16), .int (nI (v 17)), .int (nI (v 18)), .int (bI df)])), row (A 12) 48 (ru ++ [a])] h := stars_ixn hL 2 rfl [1, 0] (by decide) rfl
    refine e_aload_n 23 dX1_addRule_22 rfl rfl ?_
    refine e_get 26 dX1_addRule_23 rfl fl_X1_62_1 (stars_at _ 0 hL rfl) rfl ?_
    refine e_iload_n 27 dX1_addRule_26 rfl rfl ?_
    refine p_callV 30 hL [1, 0] 2 rfl (by decide) (L1 := [row (A 12) 48 (ru ++ [a])]) (L2 := [pt d (.inr (1, [.int (nI (v 0)), .int (nI (v 1)), .int (nI (v 2)), .ref (A 3), .ref (A 4), .ref (A 5), .ref (A 6), .ref (A 7), .int (nI (v 8)), .ref (A 9), .ref (A 10), .ref (A 11), .ref (A 12), .ref (A 13), .ref (A 14), .ref (A 15), .ref (A 16), .int (nI (v 17)), .int (nI (v 18)), .int (bI df)]))]) rfl row_O 1 rfl dX1_addRule_27 rfl cv_X1_133 k_X4_add rfl rfl (Nat.le_of_ble_eq_true rfl) ⟨by decide, by omega, by omega⟩ (fun r1 L1 h q hL => ?_)
    obtain ⟨rfl, rfl⟩ := q
    have hL : stars [row (A 12) 48 (if (ru ++ [a]).length < 48 then (ru ++ [a]) ++ [b] else (ru ++ [a])), pt d (.inr (1, [.int (nI (v 0)), .int (nI (v 1)), .int (nI (v 2)), .ref (A 3), .ref (A 4), .ref (A 5), .ref (A 6), .ref (A 7), .int (nI (v 8)), .ref (A 9), .ref (A 10), .ref (A 11), .ref (A 12), .ref (A 13), .ref (A 14), .ref (A 15), .ref (A 16), .int (nI (v 17)), .int (nI (v 18)), .int (bI df)]))] h := hL
    rw [if_pos (by (try simp only [List.length_append, List.length_cons, List.length_nil]); omega)] at hL
    have hL : stars [row (A 12) 48 ((ru ++ [a]) ++ [b]), pt d (.inr (1, [.int (nI (v 0)), .int (nI (v 1)), .int (nI (v 2)), .ref (A 3), .ref (A 4), .ref (A 5), .ref (A 6), .ref (A 7), .int (nI (v 8)), .ref (A 9), .ref (A 10), .ref (A 11), .ref (A 12), .ref (A 13), .ref (A 14), .ref (A 15), .ref (A 16), .int (nI (v 17)), .int (nI (v 18)), .int (bI df)]))] h := hL
    have hL : stars [pt d (.inr (1, [.int (nI (v 0)), .int (nI (v 1)), .int (nI (v 2)), .ref (A 3), .ref (A 4), .ref (A 5), .ref (A 6), .ref (A 7), .int (nI (v 8)), .ref (A 9), .ref (A 10), .ref (A 11), .ref (A 12), .ref (A 13), .ref (A 14), .ref (A 15), .ref (A 16), .int (nI (v 17)), .int (nI (v 18)), .int (bI df)])), row (A 12) 48 ((ru ++ [a]) ++ [b])] h := stars_ixn hL 2 rfl [1, 0] (by decide) rfl
    refine e_aload_n 31 dX1_addRule_30 rfl rfl ?_
    refine e_get 34 dX1_addRule_31 rfl fl_X1_62_1 (stars_at _ 0 hL rfl) rfl ?_
    refine e_iload_n 35 dX1_addRule_34 rfl rfl ?_
    refine p_callV 38 hL [1, 0] 2 rfl (by decide) (L1 := [row (A 12) 48 ((ru ++ [a]) ++ [b])]) (L2 := [pt d (.inr (1, [.int (nI (v 0)), .int (nI (v 1)), .int (nI (v 2)), .ref (A 3), .ref (A 4), .ref (A 5), .ref (A 6), .ref (A 7), .int (nI (v 8)), .ref (A 9), .ref (A 10), .ref (A 11), .ref (A 12), .ref (A 13), .ref (A 14), .ref (A 15), .ref (A 16), .int (nI (v 17)), .int (nI (v 18)), .int (bI df)]))]) rfl row_O 1 rfl dX1_addRule_35 rfl cv_X1_133 k_X4_add rfl rfl (Nat.le_of_ble_eq_true rfl) ⟨by decide, by omega, by omega⟩ (fun r1 L1 h q hL => ?_)
    obtain ⟨rfl, rfl⟩ := q
    have hL : stars [row (A 12) 48 (if ((ru ++ [a]) ++ [b]).length < 48 then ((ru ++ [a]) ++ [b]) ++ [c] else ((ru ++ [a]) ++ [b])), pt d (.inr (1, [.int (nI (v 0)), .int (nI (v 1)), .int (nI (v 2)), .ref (A 3), .ref (A 4), .ref (A 5), .ref (A 6), .ref (A 7), .int (nI (v 8)), .ref (A 9), .ref (A 10), .ref (A 11), .ref (A 12), .ref (A 13), .ref (A 14), .ref (A 15), .ref (A 16), .int (nI (v 17)), .int (nI (v 18)), .int (bI df)]))] h := hL
    rw [if_pos (by (try simp only [List.length_append, List.length_cons, List.length_nil]); omega)] at hL
    have hL : stars [row (A 12) 48 (((ru ++ [a]) ++ [b]) ++ [c]), pt d (.inr (1, [.int (nI (v 0)), .int (nI (v 1)), .int (nI (v 2)), .ref (A 3), .ref (A 4), .ref (A 5), .ref (A 6), .ref (A 7), .int (nI (v 8)), .ref (A 9), .ref (A 10), .ref (A 11), .ref (A 12), .ref (A 13), .ref (A 14), .ref (A 15), .ref (A 16), .int (nI (v 17)), .int (nI (v 18)), .int (bI df)]))] h := hL
    have hL : stars [pt d (.inr (1, [.int (nI (v 0)), .int (nI (v 1)), .int (nI (v 2)), .ref (A 3), .ref (A 4), .ref (A 5), .ref (A 6), .ref (A 7), .int (nI (v 8)), .ref (A 9), .ref (A 10), .ref (A 11), .ref (A 12), .ref (A 13), .ref (A 14), .ref (A 15), .ref (A 16), .int (nI (v 17)), .int (nI (v 18)), .int (bI df)])), row (A 12) 48 (((ru ++ [a]) ++ [b]) ++ [c])] h := stars_ixn hL 2 rfl [1, 0] (by decide) rfl
    refine e_aload_n 39 dX1_addRule_38 rfl rfl ?_
    refine e_get 42 dX1_addRule_39 rfl fl_X1_62_1 (stars_at _ 0 hL rfl) rfl ?_
    refine e_iload 44 dX1_addRule_42 rfl rfl ?_
    refine p_callV 47 hL [1, 0] 2 rfl (by decide) (L1 := [row (A 12) 48 (((ru ++ [a]) ++ [b]) ++ [c])]) (L2 := [pt d (.inr (1, [.int (nI (v 0)), .int (nI (v 1)), .int (nI (v 2)), .ref (A 3), .ref (A 4), .ref (A 5), .ref (A 6), .ref (A 7), .int (nI (v 8)), .ref (A 9), .ref (A 10), .ref (A 11), .ref (A 12), .ref (A 13), .ref (A 14), .ref (A 15), .ref (A 16), .int (nI (v 17)), .int (nI (v 18)), .int (bI df)]))]) rfl row_O 1 rfl dX1_addRule_44 rfl cv_X1_133 k_X4_add rfl rfl (Nat.le_of_ble_eq_true rfl) ⟨by decide, by omega, by omega⟩ (fun r1 L1 h q hL => ?_)
    obtain ⟨rfl, rfl⟩ := q
    have hL : stars [row (A 12) 48 (if (((ru ++ [a]) ++ [b]) ++ [c]).length < 48 then (((ru ++ [a]) ++ [b]) ++ [c]) ++ [e] else (((ru ++ [a]) ++ [b]) ++ [c])), pt d (.inr (1, [.int (nI (v 0)), .int (nI (v 1)), .int (nI (v 2)), .ref (A 3), .ref (A 4), .ref (A 5), .ref (A 6), .ref (A 7), .int (nI (v 8)), .ref (A 9), .ref (A 10), .ref (A 11), .ref (A 12), .ref (A 13), .ref (A 14), .ref (A 15), .ref (A 16), .int (nI (v 17)), .int (nI (v 18)), .int (bI df)]))] h := hL
    rw [if_pos (by (try simp only [List.length_append, List.length_cons, List.length_nil]); omega)] at hL
    have hL : stars [row (A 12) 48 ((((ru ++ [a]) ++ [b]) ++ [c]) ++ [e]), pt d (.inr (1, [.int (nI (v 0)), .int (nI (v 1)), .int (nI (v 2)), .ref (A 3), .ref (A 4), .ref (A 5), .ref (A 6), .ref (A 7), .int (nI (v 8)), .ref (A 9), .ref (A 10), .ref (A 11), .ref (A 12), .ref (A 13), .ref (A 14), .ref (A 15), .ref (A 16), .int (nI (v 17)), .int (nI (v 18)), .int (bI df)]))] h := hL
    have hL : stars [pt d (.inr (1, [.int (nI (v 0)), .int (nI (v 1)), .int (nI (v 2)), .ref (A 3), .ref (A 4), .ref (A 5), .ref (A 6), .ref (A 7), .int (nI (v 8)), .ref (A 9), .ref (A 10), .ref (A 11), .ref (A 12), .ref (A 13), .ref (A 14), .ref (A 15), .ref (A 16), .int (nI (v 17)), .int (nI (v 18)), .int (bI df)])), row (A 12) 48 ((((ru ++ [a]) ++ [b]) ++ [c]) ++ [e])] h := stars_ixn hL 2 rfl [1, 0] (by decide) rfl
    refine e_iconst 48 (v := (nI 1)) dX1_addRule_47 rfl (by decide) ?_
    exact e_zret dX1_addRule_48 rfl (Or.inr (by decide)) (by omega) (by omega) (⟨_, ⟨by rw [show decide (ru.length < 48) = true by (try simp only [Bool.and_eq_true, Bool.or_eq_true, Bool.not_eq_true', Bool.and_eq_false_iff, Bool.or_eq_false_iff, Bool.not_eq_false', decide_eq_true_eq, decide_eq_false_iff_not, Bool.false_or, Bool.true_or, Bool.or_false, Bool.or_true, Bool.not_false, Bool.not_true, Bool.true_and, Bool.false_and, Bool.and_true, Bool.and_false, reduceCtorEq]) <;> (try omega)]; rfl, rfl⟩, by rw [if_pos (by omega)]; simp only [List.append_assoc, List.cons_append, List.nil_append] at hL ⊢; exact hL⟩)
  · have k9 := j_lt_f (a := ru.length) (b := 48) (by omega) (by omega) c9
    refine e_iconst 13 (v := (nI 0)) dX1_addRule_12 rfl (by decide) ?_
    exact e_zret dX1_addRule_13 rfl (Or.inl (by decide)) (by omega) (by omega) (⟨_, ⟨by rw [show decide (ru.length < 48) = false by (try simp only [Bool.and_eq_true, Bool.or_eq_true, Bool.not_eq_true', Bool.and_eq_false_iff, Bool.or_eq_false_iff, Bool.not_eq_false', decide_eq_true_eq, decide_eq_false_iff_not, Bool.false_or, Bool.true_or, Bool.or_false, Bool.or_true, Bool.not_false, Bool.not_true, Bool.true_and, Bool.false_and, Bool.and_true, Bool.and_false, reduceCtorEq]) <;> (try omega)]; rfl, rfl⟩, by rw [if_neg (by omega)]; exact hL⟩)
def near (v g m : Nat) : Nat := if v < g then min (v + m) g else max (v - m) g
theorem min_nI {a b : Nat} (ha : a < 2 ^ 31) (hb : b < 2 ^ 31) : (if nI b < nI a then nI b else nI a) = nI (min a b) := by
  by_cases h : b < a
  · rw [if_pos (nI_lt h ha), show min a b = b by omega]
  · rw [if_neg (nI_nlt (by omega) hb), show min a b = a by omega]
theorem max_subI {v m g : Nat} (hv : v < 2 ^ 30) (hm : m < 2 ^ 30) (hg : g < 2 ^ 31) : (if nI v - nI m < nI g then nI g else nI v - nI m) = nI (max (v - m) g) := by
  have e := sub_lt (n := v) (k := m) (t := g) hv hm hg
  by_cases h : v < g + m
  · rw [if_pos (e.mpr h), show max (v - m) g = g by omega]
  · rw [if_neg (fun z => h (e.mp z)), pk_sub (by omega), show max (v - m) g = v - m by omega]
set_option maxRecDepth 20000 in
set_option maxHeartbeats 2000000 in
/-- nearer(v, goal, most) -/
theorem k_X1_nearer {x g m : Nat} (hx : x < 65536) (hg : g < 65536) (hm : m < 65536) : CA mX1_nearer [.int (nI x), .int (nI g), .int (nI m)] [] (fun r L => r = some (.int (nI (near x g m))) ∧ L = []) 1 21 0 0 := by
  refine CA.mk 0 (ls := [some (.int (nI x)), some (.int (nI g)), some (.int (nI m))]) rfl rfl (Nat.le_of_ble_eq_true rfl) rfl (fun h hL => ?_)
  refine e_iload_n 1 dX1_nearer_0 rfl rfl ?_
  refine e_iload_n 2 dX1_nearer_1 rfl rfl ?_
  refine e_icmp_ge 15 5 dX1_nearer_2 rfl rfl (fun c2 => ?_) (fun c2 => ?_)
  · have k2 := j_ge_t (a := x) (b := g) (by omega) (by omega) c2
    refine e_iload_n 16 dX1_nearer_15 rfl rfl ?_
    refine e_iload_n 17 dX1_nearer_16 rfl rfl ?_
    refine e_isub 18 (v := ((nI x) - (nI m))) dX1_nearer_17 rfl rfl ?_
    refine e_iload_n 19 dX1_nearer_18 rfl rfl ?_
    refine e_max 22 (v := (nI (max (x - m) g))) dX1_nearer_19 rfl ma_X1_155 (by decide) (Nat.le_of_ble_eq_true rfl) (by omega) (max_subI (by omega) (by omega) (by omega)) ?_
    exact e_iret dX1_nearer_22 rfl (by omega) (by omega) (⟨_, ⟨by rw [near, if_neg (by omega)], rfl⟩, hL⟩)
  · have k2 := j_ge_f (a := x) (b := g) (by omega) (by omega) c2
    refine e_iload_n 6 dX1_nearer_5 rfl rfl ?_
    refine e_iload_n 7 dX1_nearer_6 rfl rfl ?_
    refine e_iadd 8 (v := (nI (x + m))) dX1_nearer_7 rfl (nI_add x m) ?_
    refine e_iload_n 9 dX1_nearer_8 rfl rfl ?_
    refine e_min 12 (v := (nI (min (x + m) g))) dX1_nearer_9 rfl mi_X1_149 (by decide) (Nat.le_of_ble_eq_true rfl) (by omega) (min_nI (by omega) (by omega)) ?_
    refine e_goto 22 dX1_nearer_12 rfl ?_
    exact e_iret dX1_nearer_22 rfl (by omega) (by omega) (⟨_, ⟨by rw [near, if_pos (by omega)], rfl⟩, hL⟩)
set_option maxRecDepth 20000 in
set_option maxHeartbeats 2000000 in
theorem l_X1_clearCounters {d f0 l0 : Nat} {A v : Nat → Nat} {df : Bool} : ∀ (n : Nat) (i : Nat) (f : Nat → Int32) (h : eH), 9 - i < n → i ≤ 9 → (∀ j, j < i → f j = 0) → stars [pt d (.inr (1, [.int (nI (v 0)), .int (nI (v 1)), .int (nI (v 2)), .ref (A 3), .ref (A 4), .ref (A 5), .ref (A 6), .ref (A 7), .int (nI (v 8)), .ref (A 9), .ref (A 10), .ref (A 11), .ref (A 12), .ref (A 13), .ref (A 14), .ref (A 15), .ref (A 16), .int (nI (v 17)), .int (nI (v 18)), .int (bI df)])), pt (A 13) (.inl (0, 9, .inl f))] h → EE mX1_clearCounters f0 l0 0 0 (fun x h' => ∃ L', (x = none ∧ L' = [dvO d A v df, pI (A 13) 9 (fun _ => 0)]) ∧ stars L' h') 2 [some (.ref d), some (.int (nI i))] [] h 0 0 := by
  intro n
  induction n with
  | zero => intro i f h hlt hi hz hL; exact absurd hlt (by omega)
  | succ n ih =>
    intro i f h hlt hi hz hL
    refine e_iload_n 3 dX1_clearCounters_2 rfl rfl ?_
    refine e_bipush 5 (v := (nI 9)) dX1_clearCounters_3 rfl (by decide) ?_
    refine e_icmp_ge 21 8 dX1_clearCounters_5 rfl rfl (fun c5 => ?_) (fun c5 => ?_)
    · have k5 := j_ge_t (a := i) (b := 9) (by omega) (by omega) c5
      refine p_ext hL 1 (L' := [pt d (.inr (1, [.int (nI (v 0)), .int (nI (v 1)), .int (nI (v 2)), .ref (A 3), .ref (A 4), .ref (A 5), .ref (A 6), .ref (A 7), .int (nI (v 8)), .ref (A 9), .ref (A 10), .ref (A 11), .ref (A 12), .ref (A 13), .ref (A 14), .ref (A 15), .ref (A 16), .int (nI (v 17)), .int (nI (v 18)), .int (bI df)])), pt (A 13) (.inl (0, 9, .inl (fun i => nI ((fun _ => 0) i))))]) rfl (fun i => nI ((fun _ => 0) i)) rfl (fun j hj => hz j (by omega)) (fun h hL => ?_)
      exact e_vret dX1_clearCounters_21 rfl (by omega) (by omega) (⟨_, ⟨rfl, rfl⟩, hL⟩)
    · have k5 := j_ge_f (a := i) (b := 9) (by omega) (by omega) c5
      refine e_aload_n 9 dX1_clearCounters_8 rfl rfl ?_
      refine e_get 12 dX1_clearCounters_9 rfl fl_X1_66_1 (stars_at _ 0 hL rfl) rfl ?_
      refine e_iload_n 13 dX1_clearCounters_12 rfl rfl ?_
      refine e_iconst 14 (v := (nI 0)) dX1_clearCounters_13 rfl (by decide) ?_
      refine p_iast 15 hL 1 (k := i) (L' := [pt d (.inr (1, [.int (nI (v 0)), .int (nI (v 1)), .int (nI (v 2)), .ref (A 3), .ref (A 4), .ref (A 5), .ref (A 6), .ref (A 7), .int (nI (v 8)), .ref (A 9), .ref (A 10), .ref (A 11), .ref (A 12), .ref (A 13), .ref (A 14), .ref (A 15), .ref (A 16), .int (nI (v 17)), .int (nI (v 18)), .int (bI df)])), pt (A 13) (.inl (0, 9, .inl (upd f i (nI 0))))]) rfl rfl dX1_clearCounters_14 rfl (vp_in_nI (by omega) (by omega)) (nI_clamp (by omega)) (fun h hL => ?_)
      refine e_iinc 18 (v := (nI (i + 1))) (ls' := [some (.ref d), some (.int (nI (i + 1)))]) dX1_clearCounters_15 rfl rfl (nI_add i 1) (by decide) rfl ?_
      refine e_goto 2 dX1_clearCounters_18 rfl ?_
      exact ih (i + 1) _ h (by omega) (by omega) (upd_zero hz) hL
set_option maxRecDepth 20000 in
set_option maxHeartbeats 2000000 in
/-- clearCounters() -/
theorem k_X1_clearCounters {d : Nat} {A v : Nat → Nat} {df : Bool} {ct : Nat → Nat} : CA mX1_clearCounters [.ref d] [dvO d A v df, pI (A 13) 9 ct] (fun x L => x = none ∧ L = [dvO d A v df, pI (A 13) 9 (fun _ => 0)]) 0 0 0 0 := by
  refine CA.mk 1 (ls := [some (.ref d), none]) rfl rfl (Nat.le_of_ble_eq_true rfl) rfl (fun h hL => ?_)
  refine e_iconst 1 (v := (nI 0)) dX1_clearCounters_0 rfl (by decide) ?_
  refine e_istore_n 2 (ls' := [some (.ref d), some (.int (nI 0))]) dX1_clearCounters_1 rfl (by decide) rfl ?_
  exact l_X1_clearCounters 10 0 _ h (by omega) (by omega) lt_0 hL
/-- limits: four numbers each: first, last place, least, greatest value -/
def lmA (lm : Nat → Nat) (n a m lo hi : Nat) : Nat → Nat := upN (upN (upN (upN lm (n * 4) a) (n * 4 + 1) (a + m - 1)) (n * 4 + 2) lo) (n * 4 + 3) hi
def mbg (lm : Nat → Nat) (n at9 x : Nat) : Bool := (List.range n).all (fun k => !(decide (lm (k * 4) ≤ at9) && decide (at9 ≤ lm (k * 4 + 1))) || (decide (lm (k * 4 + 2) ≤ x) && decide (x ≤ lm (k * 4 + 3))))
theorem mbg_succ {lm : Nat → Nat} {n at9 x : Nat} : mbg lm (n + 1) at9 x = (mbg lm n at9 x && (!(decide (lm (n * 4) ≤ at9) && decide (at9 ≤ lm (n * 4 + 1))) || (decide (lm (n * 4 + 2) ≤ x) && decide (x ≤ lm (n * 4 + 3))))) := by
  simp [mbg, List.range_succ]
theorem mbg_f {lm : Nat → Nat} {n i at9 x : Nat} (hi : i < n) (h1 : lm (i * 4) ≤ at9) (h2 : at9 ≤ lm (i * 4 + 1)) (h3 : x < lm (i * 4 + 2) ∨ lm (i * 4 + 3) < x) : mbg lm n at9 x = false := by
  cases e : mbg lm n at9 x with
  | false => rfl
  | true =>
    simp only [mbg, List.all_eq_true, List.mem_range] at e
    have := e i hi
    simp only [Bool.or_eq_true, Bool.not_eq_true', Bool.and_eq_false_iff, Bool.and_eq_true, decide_eq_true_eq, decide_eq_false_iff_not] at this
    omega
set_option maxRecDepth 20000 in
set_option maxHeartbeats 2000000 in
/-- addLimit(from, m, low, high) -/
theorem k_X1_addLimit {d : Nat} {A v : Nat → Nat} {df : Bool} {lm : Nat → Nat} {a m lo hi : Nat} (h8 : v 8 ≤ 8) (ha : a < 65536) (hm : 1 ≤ m ∧ m ≤ 65536) : CA mX1_addLimit [.ref d, .int (nI a), .int (nI m), .int (nI lo), .int (nI hi)] [dvO d A v df, pI (A 7) 32 lm] (fun x L => x = some (.int (bI (decide (v 8 < 8)))) ∧ L = [dvO d A (if v 8 < 8 then upN v 8 (v 8 + 1) else v) df, pI (A 7) 32 (if v 8 < 8 then lmA lm (v 8) a m lo hi else lm)]) 0 0 0 0 := by
  refine CA.mk 1 (ls := [some (.ref d), some (.int (nI a)), some (.int (nI m)), some (.int (nI lo)), some (.int (nI hi)), none]) rfl rfl (Nat.le_of_ble_eq_true rfl) rfl (fun h hL => ?_)
  refine e_aload_n 1 dX1_addLimit_0 rfl rfl ?_
  refine e_get 4 dX1_addLimit_1 rfl fl_X1_82_1 (stars_at _ 0 hL rfl) rfl ?_
  refine e_bipush 6 (v := (nI 8)) dX1_addLimit_4 rfl (by decide) ?_
  refine e_icmp_lt 11 9 dX1_addLimit_6 rfl rfl (fun c6 => ?_) (fun c6 => ?_)
  · have k6 := j_lt_t (a := (v 8)) (b := 8) (by omega) (by omega) c6
    refine e_aload_n 12 dX1_addLimit_11 rfl rfl ?_
    refine e_get 15 dX1_addLimit_12 rfl fl_X1_82_1 (stars_at _ 0 hL rfl) rfl ?_
    refine e_iconst 16 (v := (nI 4)) dX1_addLimit_15 rfl (by decide) ?_
    refine e_imul 17 (v := (nI ((v 8) * 4))) dX1_addLimit_16 rfl (pk_mul (v 8) 4) ?_
    refine e_istore 19 (ls' := [some (.ref d), some (.int (nI a)), some (.int (nI m)), some (.int (nI lo)), some (.int (nI hi)), some (.int (nI ((v 8) * 4)))]) dX1_addLimit_17 rfl (by decide) rfl ?_
    refine e_aload_n 20 dX1_addLimit_19 rfl rfl ?_
    refine e_get 23 dX1_addLimit_20 rfl fl_X1_40_1 (stars_at _ 0 hL rfl) rfl ?_
    refine e_iload 25 dX1_addLimit_23 rfl rfl ?_
    refine e_iload_n 26 dX1_addLimit_25 rfl rfl ?_
    refine p_iast 27 hL 1 (k := ((v 8) * 4)) (L' := [pt d (.inr (1, [.int (nI (v 0)), .int (nI (v 1)), .int (nI (v 2)), .ref (A 3), .ref (A 4), .ref (A 5), .ref (A 6), .ref (A 7), .int (nI (v 8)), .ref (A 9), .ref (A 10), .ref (A 11), .ref (A 12), .ref (A 13), .ref (A 14), .ref (A 15), .ref (A 16), .int (nI (v 17)), .int (nI (v 18)), .int (bI df)])), pt (A 7) (.inl (0, 32, .inl (upd (fun i => nI (lm i)) ((v 8) * 4) (nI a))))]) rfl rfl dX1_addLimit_26 rfl (vp_in_nI (by omega) (by omega)) (nI_clamp (by omega)) (fun h hL => ?_)
    refine e_aload_n 28 dX1_addLimit_27 rfl rfl ?_
    refine e_get 31 dX1_addLimit_28 rfl fl_X1_40_1 (stars_at _ 0 hL rfl) rfl ?_
    refine e_iload 33 dX1_addLimit_31 rfl rfl ?_
    refine e_iconst 34 (v := (nI 1)) dX1_addLimit_33 rfl (by decide) ?_
    refine e_iadd 35 (v := (nI (((v 8) * 4) + 1))) dX1_addLimit_34 rfl (nI_add ((v 8) * 4) 1) ?_
    refine e_iload_n 36 dX1_addLimit_35 rfl rfl ?_
    refine e_iload_n 37 dX1_addLimit_36 rfl rfl ?_
    refine e_iadd 38 (v := (nI (a + m))) dX1_addLimit_37 rfl (nI_add a m) ?_
    refine e_iconst 39 (v := (nI 1)) dX1_addLimit_38 rfl (by decide) ?_
    refine e_isub 40 (v := (nI (a + m - 1))) dX1_addLimit_39 rfl (pk_sub (by omega)) ?_
    refine p_iast 41 hL 1 (k := (((v 8) * 4) + 1)) (L' := [pt d (.inr (1, [.int (nI (v 0)), .int (nI (v 1)), .int (nI (v 2)), .ref (A 3), .ref (A 4), .ref (A 5), .ref (A 6), .ref (A 7), .int (nI (v 8)), .ref (A 9), .ref (A 10), .ref (A 11), .ref (A 12), .ref (A 13), .ref (A 14), .ref (A 15), .ref (A 16), .int (nI (v 17)), .int (nI (v 18)), .int (bI df)])), pt (A 7) (.inl (0, 32, .inl (upd (upd (fun i => nI (lm i)) ((v 8) * 4) (nI a)) (((v 8) * 4) + 1) (nI (a + m - 1)))))]) rfl rfl dX1_addLimit_40 rfl (vp_in_nI (by omega) (by omega)) (nI_clamp (by omega)) (fun h hL => ?_)
    refine e_aload_n 42 dX1_addLimit_41 rfl rfl ?_
    refine e_get 45 dX1_addLimit_42 rfl fl_X1_40_1 (stars_at _ 0 hL rfl) rfl ?_
    refine e_iload 47 dX1_addLimit_45 rfl rfl ?_
    refine e_iconst 48 (v := (nI 2)) dX1_addLimit_47 rfl (by decide) ?_
    refine e_iadd 49 (v := (nI (((v 8) * 4) + 2))) dX1_addLimit_48 rfl (nI_add ((v 8) * 4) 2) ?_
    refine e_iload_n 50 dX1_addLimit_49 rfl rfl ?_
    refine p_iast 51 hL 1 (k := (((v 8) * 4) + 2)) (L' := [pt d (.inr (1, [.int (nI (v 0)), .int (nI (v 1)), .int (nI (v 2)), .ref (A 3), .ref (A 4), .ref (A 5), .ref (A 6), .ref (A 7), .int (nI (v 8)), .ref (A 9), .ref (A 10), .ref (A 11), .ref (A 12), .ref (A 13), .ref (A 14), .ref (A 15), .ref (A 16), .int (nI (v 17)), .int (nI (v 18)), .int (bI df)])), pt (A 7) (.inl (0, 32, .inl (upd (upd (upd (fun i => nI (lm i)) ((v 8) * 4) (nI a)) (((v 8) * 4) + 1) (nI (a + m - 1))) (((v 8) * 4) + 2) (nI lo))))]) rfl rfl dX1_addLimit_50 rfl (vp_in_nI (by omega) (by omega)) (nI_clamp (by omega)) (fun h hL => ?_)
    refine e_aload_n 52 dX1_addLimit_51 rfl rfl ?_
    refine e_get 55 dX1_addLimit_52 rfl fl_X1_40_1 (stars_at _ 0 hL rfl) rfl ?_
    refine e_iload 57 dX1_addLimit_55 rfl rfl ?_
    refine e_iconst 58 (v := (nI 3)) dX1_addLimit_57 rfl (by decide) ?_
    refine e_iadd 59 (v := (nI (((v 8) * 4) + 3))) dX1_addLimit_58 rfl (nI_add ((v 8) * 4) 3) ?_
    refine e_iload 61 dX1_addLimit_59 rfl rfl ?_
    refine p_iast 62 hL 1 (k := (((v 8) * 4) + 3)) (L' := [pt d (.inr (1, [.int (nI (v 0)), .int (nI (v 1)), .int (nI (v 2)), .ref (A 3), .ref (A 4), .ref (A 5), .ref (A 6), .ref (A 7), .int (nI (v 8)), .ref (A 9), .ref (A 10), .ref (A 11), .ref (A 12), .ref (A 13), .ref (A 14), .ref (A 15), .ref (A 16), .int (nI (v 17)), .int (nI (v 18)), .int (bI df)])), pt (A 7) (.inl (0, 32, .inl (upd (upd (upd (upd (fun i => nI (lm i)) ((v 8) * 4) (nI a)) (((v 8) * 4) + 1) (nI (a + m - 1))) (((v 8) * 4) + 2) (nI lo)) (((v 8) * 4) + 3) (nI hi))))]) rfl rfl dX1_addLimit_61 rfl (vp_in_nI (by omega) (by omega)) (nI_clamp (by omega)) (fun h hL => ?_)
    refine e_aload_n 63 dX1_addLimit_62 rfl rfl ?_
    refine e_dup 64 dX1_addLimit_63 rfl rfl ?_
    refine e_get 67 dX1_addLimit_64 rfl fl_X1_82_1 (stars_at _ 0 hL rfl) rfl ?_
    refine e_iconst 68 (v := (nI 1)) dX1_addLimit_67 rfl (by decide) ?_
    refine e_iadd 69 (v := (nI ((v 8) + 1))) dX1_addLimit_68 rfl (nI_add (v 8) 1) ?_
    refine p_put 72 hL 0 (fs' := [.int (nI (v 0)), .int (nI (v 1)), .int (nI (v 2)), .ref (A 3), .ref (A 4), .ref (A 5), .ref (A 6), .ref (A 7), .int (nI ((v 8) + 1)), .ref (A 9), .ref (A 10), .ref (A 11), .ref (A 12), .ref (A 13), .ref (A 14), .ref (A 15), .ref (A 16), .int (nI (v 17)), .int (nI (v 18)), .int (bI df)]) (L' := [pt d (.inr (1, [.int (nI (v 0)), .int (nI (v 1)), .int (nI (v 2)), .ref (A 3), .ref (A 4), .ref (A 5), .ref (A 6), .ref (A 7), .int (nI ((v 8) + 1)), .ref (A 9), .ref (A 10), .ref (A 11), .ref (A 12), .ref (A 13), .ref (A 14), .ref (A 15), .ref (A 16), .int (nI (v 17)), .int (nI (v 18)), .int (bI df)])), pt (A 7) (.inl (0, 32, .inl (upd (upd (upd (upd (fun i => nI (lm i)) ((v 8) * 4) (nI a)) (((v 8) * 4) + 1) (nI (a + m - 1))) (((v 8) * 4) + 2) (nI lo)) (((v 8) * 4) + 3) (nI hi))))]) rfl rfl dX1_addLimit_69 rfl fp_X1_82_1 (Or.inl rfl) (Nat.le_of_ble_eq_true rfl) rfl rfl rfl (fun h hL => ?_)
    refine e_iconst 73 (v := (nI 1)) dX1_addLimit_72 rfl (by decide) ?_
    exact e_zret dX1_addLimit_73 rfl (Or.inr (by decide)) (by omega) (by omega) (⟨_, ⟨by rw [show decide (v 8 < 8) = true by (try simp only [Bool.and_eq_true, Bool.or_eq_true, Bool.not_eq_true', Bool.and_eq_false_iff, Bool.or_eq_false_iff, Bool.not_eq_false', decide_eq_true_eq, decide_eq_false_iff_not, Bool.false_or, Bool.true_or, Bool.or_false, Bool.or_true, Bool.not_false, Bool.not_true, Bool.true_and, Bool.false_and, Bool.and_true, Bool.and_false, reduceCtorEq]) <;> (try omega)]; rfl, rfl⟩, by simp only [upd_nI] at hL; rw [if_pos (by omega), if_pos (by omega)]; exact hL⟩)
  · have k6 := j_lt_f (a := (v 8)) (b := 8) (by omega) (by omega) c6
    refine e_iconst 10 (v := (nI 0)) dX1_addLimit_9 rfl (by decide) ?_
    exact e_zret dX1_addLimit_10 rfl (Or.inl (by decide)) (by omega) (by omega) (⟨_, ⟨by rw [show decide (v 8 < 8) = false by (try simp only [Bool.and_eq_true, Bool.or_eq_true, Bool.not_eq_true', Bool.and_eq_false_iff, Bool.or_eq_false_iff, Bool.not_eq_false', decide_eq_true_eq, decide_eq_false_iff_not, Bool.false_or, Bool.true_or, Bool.or_false, Bool.or_true, Bool.not_false, Bool.not_true, Bool.true_and, Bool.false_and, Bool.and_true, Bool.and_false, reduceCtorEq]) <;> (try omega)]; rfl, rfl⟩, by rw [if_neg (by omega), if_neg (by omega)]; exact hL⟩)
set_option maxRecDepth 20000 in
set_option maxHeartbeats 2000000 in
theorem l_X1_mayBeGiven {d f0 l0 at9 x : Nat} {A v : Nat → Nat} {df : Bool} {lm : Nat → Nat} (h8 : v 8 ≤ 8) (hb : ∀ i, lm i < 200000) (h1 : at9 < 200000) (h2 : x < 200000) : ∀ (n : Nat) (i : Nat) (h : eH), v 8 - i < n → i ≤ v 8 → mbg lm i at9 x = true → stars [pt d (.inr (1, [.int (nI (v 0)), .int (nI (v 1)), .int (nI (v 2)), .ref (A 3), .ref (A 4), .ref (A 5), .ref (A 6), .ref (A 7), .int (nI (v 8)), .ref (A 9), .ref (A 10), .ref (A 11), .ref (A 12), .ref (A 13), .ref (A 14), .ref (A 15), .ref (A 16), .int (nI (v 17)), .int (nI (v 18)), .int (bI df)])), pt (A 7) (.inl (0, 32, .inl (fun i => nI (lm i))))] h → EE mX1_mayBeGiven f0 l0 0 0 (fun r h' => ∃ L', (r = some (.int (bI (mbg lm (v 8) at9 x))) ∧ L' = [dvO d A v df, pI (A 7) 32 lm]) ∧ stars L' h') 2 [some (.ref d), some (.int (nI at9)), some (.int (nI x)), some (.int (nI i)), none] [] h 0 0 := by
  intro n
  induction n with
  | zero => intro i h hlt hi he hL; exact absurd hlt (by omega)
  | succ n ih =>
    intro i h hlt hi he hL
    have b0 := hb (i * 4)
    have b1 := hb (i * 4 + 1)
    have b2 := hb (i * 4 + 2)
    have b3 := hb (i * 4 + 3)
    refine e_iload_n 3 dX1_mayBeGiven_2 rfl rfl ?_
    refine e_aload_n 4 dX1_mayBeGiven_3 rfl rfl ?_
    refine e_get 7 dX1_mayBeGiven_4 rfl fl_X1_82_1 (stars_at _ 0 hL rfl) rfl ?_
    refine e_icmp_ge 79 10 dX1_mayBeGiven_7 rfl rfl (fun c7 => ?_) (fun c7 => ?_)
    · have k7 := j_ge_t (a := i) (b := (v 8)) (by omega) (by omega) c7
      refine e_iconst 80 (v := (nI 1)) dX1_mayBeGiven_79 rfl (by decide) ?_
      exact e_zret dX1_mayBeGiven_80 rfl (Or.inr (by decide)) (by omega) (by omega) (⟨_, ⟨by rw [show v 8 = i by omega, he]; rfl, rfl⟩, hL⟩)
    · have k7 := j_ge_f (a := i) (b := (v 8)) (by omega) (by omega) c7
      refine e_iload_n 11 dX1_mayBeGiven_10 rfl rfl ?_
      refine e_bipush 13 (v := (nI 8)) dX1_mayBeGiven_11 rfl (by decide) ?_
      refine e_icmp_ge 79 16 dX1_mayBeGiven_13 rfl rfl (fun c13 => ?_) (fun c13 => ?_)
      · have k13 := j_ge_t (a := i) (b := 8) (by omega) (by omega) c13
        refine e_iconst 80 (v := (nI 1)) dX1_mayBeGiven_79 rfl (by decide) ?_
        exact e_zret dX1_mayBeGiven_80 rfl (Or.inr (by decide)) (by omega) (by omega) (⟨_, ⟨by rw [show v 8 = i by omega, he]; rfl, rfl⟩, hL⟩)
      · have k13 := j_ge_f (a := i) (b := 8) (by omega) (by omega) c13
        refine e_iload_n 17 dX1_mayBeGiven_16 rfl rfl ?_
        refine e_iconst 18 (v := (nI 4)) dX1_mayBeGiven_17 rfl (by decide) ?_
        refine e_imul 19 (v := (nI (i * 4))) dX1_mayBeGiven_18 rfl (pk_mul i 4) ?_
        refine e_istore 21 (ls' := [some (.ref d), some (.int (nI at9)), some (.int (nI x)), some (.int (nI i)), some (.int (nI (i * 4)))]) dX1_mayBeGiven_19 rfl (by decide) rfl ?_
        refine e_iload_n 22 dX1_mayBeGiven_21 rfl rfl ?_
        refine e_aload_n 23 dX1_mayBeGiven_22 rfl rfl ?_
        refine e_get 26 dX1_mayBeGiven_23 rfl fl_X1_40_1 (stars_at _ 0 hL rfl) rfl ?_
        refine e_iload 28 dX1_mayBeGiven_26 rfl rfl ?_
        refine e_iald 29 (v := (nI (lm (i * 4)))) dX1_mayBeGiven_28 rfl (stars_at _ 1 hL rfl) (vp_in_nI (by omega) (by omega)) (by show nI (lm _) = _; rw [nI_clamp (by omega)]) ?_
        refine e_icmp_lt 73 32 dX1_mayBeGiven_29 rfl rfl (fun c29 => ?_) (fun c29 => ?_)
        · have k29 := j_lt_t (a := at9) (b := (lm (i * 4))) (by omega) (by omega) c29
          refine e_iinc 76 (v := (nI (i + 1))) (ls' := [some (.ref d), some (.int (nI at9)), some (.int (nI x)), some (.int (nI (i + 1))), some (.int (nI (i * 4)))]) dX1_mayBeGiven_73 rfl rfl (nI_add i 1) (by decide) rfl ?_
          refine e_goto 2 dX1_mayBeGiven_76 rfl ?_
          refine e_wk [some (.ref d), some (.int (nI at9)), some (.int (nI x)), some (.int (nI (i + 1))), none] ⟨rfl, rfl, rfl, rfl, trivial⟩ ?_
          exact ih (i + 1) h (by omega) (by omega) (by rw [mbg_succ, he, Bool.true_and]; (try simp only [Bool.and_eq_true, Bool.or_eq_true, Bool.not_eq_true', Bool.and_eq_false_iff, Bool.or_eq_false_iff, Bool.not_eq_false', decide_eq_true_eq, decide_eq_false_iff_not, Bool.false_or, Bool.true_or, Bool.or_false, Bool.or_true, Bool.not_false, Bool.not_true, Bool.true_and, Bool.false_and, Bool.and_true, Bool.and_false, reduceCtorEq]) <;> (try omega)) hL
        · have k29 := j_lt_f (a := at9) (b := (lm (i * 4))) (by omega) (by omega) c29
          refine e_iload_n 33 dX1_mayBeGiven_32 rfl rfl ?_
          refine e_aload_n 34 dX1_mayBeGiven_33 rfl rfl ?_
          refine e_get 37 dX1_mayBeGiven_34 rfl fl_X1_40_1 (stars_at _ 0 hL rfl) rfl ?_
          refine e_iload 39 dX1_mayBeGiven_37 rfl rfl ?_
          refine e_iconst 40 (v := (nI 1)) dX1_mayBeGiven_39 rfl (by decide) ?_
          refine e_iadd 41 (v := (nI ((i * 4) + 1))) dX1_mayBeGiven_40 rfl (nI_add (i * 4) 1) ?_
          refine e_iald 42 (v := (nI (lm (i * 4 + 1)))) dX1_mayBeGiven_41 rfl (stars_at _ 1 hL rfl) (vp_in_nI (by omega) (by omega)) (by show nI (lm _) = _; rw [nI_clamp (by omega)]) ?_
          refine e_icmp_gt 73 45 dX1_mayBeGiven_42 rfl rfl (fun c42 => ?_) (fun c42 => ?_)
          · have k42 := j_gt_t (a := at9) (b := (lm (i * 4 + 1))) (by omega) (by omega) c42
            refine e_iinc 76 (v := (nI (i + 1))) (ls' := [some (.ref d), some (.int (nI at9)), some (.int (nI x)), some (.int (nI (i + 1))), some (.int (nI (i * 4)))]) dX1_mayBeGiven_73 rfl rfl (nI_add i 1) (by decide) rfl ?_
            refine e_goto 2 dX1_mayBeGiven_76 rfl ?_
            refine e_wk [some (.ref d), some (.int (nI at9)), some (.int (nI x)), some (.int (nI (i + 1))), none] ⟨rfl, rfl, rfl, rfl, trivial⟩ ?_
            exact ih (i + 1) h (by omega) (by omega) (by rw [mbg_succ, he, Bool.true_and]; (try simp only [Bool.and_eq_true, Bool.or_eq_true, Bool.not_eq_true', Bool.and_eq_false_iff, Bool.or_eq_false_iff, Bool.not_eq_false', decide_eq_true_eq, decide_eq_false_iff_not, Bool.false_or, Bool.true_or, Bool.or_false, Bool.or_true, Bool.not_false, Bool.not_true, Bool.true_and, Bool.false_and, Bool.and_true, Bool.and_false, reduceCtorEq]) <;> (try omega)) hL
          · have k42 := j_gt_f (a := at9) (b := (lm (i * 4 + 1))) (by omega) (by omega) c42
            refine e_iload_n 46 dX1_mayBeGiven_45 rfl rfl ?_
            refine e_aload_n 47 dX1_mayBeGiven_46 rfl rfl ?_
            refine e_get 50 dX1_mayBeGiven_47 rfl fl_X1_40_1 (stars_at _ 0 hL rfl) rfl ?_
            refine e_iload 52 dX1_mayBeGiven_50 rfl rfl ?_
            refine e_iconst 53 (v := (nI 2)) dX1_mayBeGiven_52 rfl (by decide) ?_
            refine e_iadd 54 (v := (nI ((i * 4) + 2))) dX1_mayBeGiven_53 rfl (nI_add (i * 4) 2) ?_
            refine e_iald 55 (v := (nI (lm (i * 4 + 2)))) dX1_mayBeGiven_54 rfl (stars_at _ 1 hL rfl) (vp_in_nI (by omega) (by omega)) (by show nI (lm _) = _; rw [nI_clamp (by omega)]) ?_
            refine e_icmp_lt 71 58 dX1_mayBeGiven_55 rfl rfl (fun c55 => ?_) (fun c55 => ?_)
            · have k55 := j_lt_t (a := x) (b := (lm (i * 4 + 2))) (by omega) (by omega) c55
              refine e_iconst 72 (v := (nI 0)) dX1_mayBeGiven_71 rfl (by decide) ?_
              exact e_zret dX1_mayBeGiven_72 rfl (Or.inl (by decide)) (by omega) (by omega) (⟨_, ⟨by rw [mbg_f (i := i) (by omega) (by omega) (by omega) (by omega)]; rfl, rfl⟩, hL⟩)
            · have k55 := j_lt_f (a := x) (b := (lm (i * 4 + 2))) (by omega) (by omega) c55
              refine e_iload_n 59 dX1_mayBeGiven_58 rfl rfl ?_
              refine e_aload_n 60 dX1_mayBeGiven_59 rfl rfl ?_
              refine e_get 63 dX1_mayBeGiven_60 rfl fl_X1_40_1 (stars_at _ 0 hL rfl) rfl ?_
              refine e_iload 65 dX1_mayBeGiven_63 rfl rfl ?_
              refine e_iconst 66 (v := (nI 3)) dX1_mayBeGiven_65 rfl (by decide) ?_
              refine e_iadd 67 (v := (nI ((i * 4) + 3))) dX1_mayBeGiven_66 rfl (nI_add (i * 4) 3) ?_
              refine e_iald 68 (v := (nI (lm (i * 4 + 3)))) dX1_mayBeGiven_67 rfl (stars_at _ 1 hL rfl) (vp_in_nI (by omega) (by omega)) (by show nI (lm _) = _; rw [nI_clamp (by omega)]) ?_
              refine e_icmp_le 73 71 dX1_mayBeGiven_68 rfl rfl (fun c68 => ?_) (fun c68 => ?_)
              · have k68 := j_le_t (a := x) (b := (lm (i * 4 + 3))) (by omega) (by omega) c68
                refine e_iinc 76 (v := (nI (i + 1))) (ls' := [some (.ref d), some (.int (nI at9)), some (.int (nI x)), some (.int (nI (i + 1))), some (.int (nI (i * 4)))]) dX1_mayBeGiven_73 rfl rfl (nI_add i 1) (by decide) rfl ?_
                refine e_goto 2 dX1_mayBeGiven_76 rfl ?_
                refine e_wk [some (.ref d), some (.int (nI at9)), some (.int (nI x)), some (.int (nI (i + 1))), none] ⟨rfl, rfl, rfl, rfl, trivial⟩ ?_
                exact ih (i + 1) h (by omega) (by omega) (by rw [mbg_succ, he, Bool.true_and]; (try simp only [Bool.and_eq_true, Bool.or_eq_true, Bool.not_eq_true', Bool.and_eq_false_iff, Bool.or_eq_false_iff, Bool.not_eq_false', decide_eq_true_eq, decide_eq_false_iff_not, Bool.false_or, Bool.true_or, Bool.or_false, Bool.or_true, Bool.not_false, Bool.not_true, Bool.true_and, Bool.false_and, Bool.and_true, Bool.and_false, reduceCtorEq]) <;> (try omega)) hL
              · have k68 := j_le_f (a := x) (b := (lm (i * 4 + 3))) (by omega) (by omega) c68
                refine e_iconst 72 (v := (nI 0)) dX1_mayBeGiven_71 rfl (by decide) ?_
                exact e_zret dX1_mayBeGiven_72 rfl (Or.inl (by decide)) (by omega) (by omega) (⟨_, ⟨by rw [mbg_f (i := i) (by omega) (by omega) (by omega) (by omega)]; rfl, rfl⟩, hL⟩)
set_option maxRecDepth 20000 in
set_option maxHeartbeats 2000000 in
/-- mayBeGiven(at, v) -/
theorem k_X1_mayBeGiven {d : Nat} {A v : Nat → Nat} {df : Bool} {lm : Nat → Nat} {at9 x : Nat} (h8 : v 8 ≤ 8) (hb : ∀ i, lm i < 200000) (h1 : at9 < 200000) (h2 : x < 200000) : CA mX1_mayBeGiven [.ref d, .int (nI at9), .int (nI x)] [dvO d A v df, pI (A 7) 32 lm] (fun r L => r = some (.int (bI (mbg lm (v 8) at9 x))) ∧ L = [dvO d A v df, pI (A 7) 32 lm]) 0 0 0 0 := by
  refine CA.mk 2 (ls := [some (.ref d), some (.int (nI at9)), some (.int (nI x)), none, none]) rfl rfl (Nat.le_of_ble_eq_true rfl) rfl (fun h hL => ?_)
  refine e_iconst 1 (v := (nI 0)) dX1_mayBeGiven_0 rfl (by decide) ?_
  refine e_istore_n 2 (ls' := [some (.ref d), some (.int (nI at9)), some (.int (nI x)), some (.int (nI 0)), none]) dX1_mayBeGiven_1 rfl (by decide) rfl ?_
  exact l_X1_mayBeGiven h8 hb h1 h2 (v 8 + 1) 0 h (by omega) (by omega) rfl hL
