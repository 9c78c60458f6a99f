/-! the law from its entry -/
theorem x_0 : okX gs0 := ⟨fun e h => absurd h List.not_mem_nil, fun h => absurd rfl h, fun h => absurd h (by decide), fun h => absurd rfl h, Nat.zero_le _, Nat.zero_le _⟩
set_option maxRecDepth 20000 in
set_option maxHeartbeats 2000000 in
theorem l_start {z : Nat × Nat × (Nat → Int32)} (hL3 : z.2.1 ≤ 3072) : ES (PPL z) FFL mL_law 11 430 601024 7293034 0 [some (.ref z.1), none, none, none, none, none, none] [] e_em 0 0 := by
  have hL : stars [] e_em := rfl
  refine sp_new 3 9 hL rfl dL_law_0 rfl nc_L_8 (by omega) (by omega) (fun o h hL => ?_)
  have hL : stars [pt o (.inr (9, [.null, .null, .null, .null, .null, .int 0, .null, .null, .int 0]))] h := hL
  refine s_dup 4 dL_law_3 rfl rfl ?_
  refine sp_callI 7 hL [0] 1 rfl (by decide) (L1 := [pt o (.inr (9, [.null, .null, .null, .null, .null, .int 0, .null, .null, .int 0]))]) (L2 := []) rfl dL_law_4 rfl ci_L_20 k_X11_init rfl rfl (Nat.le_of_ble_eq_true rfl) ⟨by decide, by omega, by omega⟩ (fun r1 L1 h q hL => ?_)
  obtain ⟨rfl, rfl⟩ := q
  have hL : stars [flo o gs0 hd0] h := hL
  refine s_astore_n 8 (ls' := [some (.ref z.1), some (.ref o), none, none, none, none, none]) dL_law_7 rfl (by decide) rfl ?_
  refine sp_new 11 38 hL rfl dL_law_8 rfl nc_L_21 (by omega) (by omega) (fun m h hL => ?_)
  have hL : stars [pt m (.inr (13, [.int 0, .null, .int 0, .null, .int 0, .null, .null, .int 0, .int 0, .int 0, .int 0, .int 0, .null, .null, .null, .int 0, .int 0, .int 0, .int 0, .int 0, .int 0, .null, .int 0, .int 0, .int 0, .int 0, .int 0, .int 0, .int 0, .int 0, .int 0, .null, .null, .int 0, .null, .int 0, .null, .int 0])), flo o gs0 hd0] h := hL
  refine s_dup 12 dL_law_11 rfl rfl ?_
  refine sp_callI 15 hL [0, 1] 2 rfl (by decide) (L1 := [pt m (.inr (13, [.int 0, .null, .int 0, .null, .int 0, .null, .null, .int 0, .int 0, .int 0, .int 0, .int 0, .null, .null, .null, .int 0, .int 0, .int 0, .int 0, .int 0, .int 0, .null, .int 0, .int 0, .int 0, .int 0, .int 0, .int 0, .int 0, .int 0, .int 0, .null, .null, .int 0, .null, .int 0, .null, .int 0]))]) (L2 := [flo o gs0 hd0]) rfl dL_law_12 rfl ci_L_23 k_X15_init rfl rfl (Nat.le_of_ble_eq_true rfl) ⟨by decide, by omega, by omega⟩ (fun r1 L1 h q hL => ?_)
  obtain ⟨rfl, rfl⟩ := q
  have hL : stars [rfo m gs0 0, flo o gs0 hd0] h := hL
  refine s_astore_n 16 (ls' := [some (.ref z.1), some (.ref o), some (.ref m), none, none, none, none]) dL_law_15 rfl (by decide) rfl ?_
  refine s_iconst 17 (v := nI 1) dL_law_16 rfl (by decide) ?_
  refine s_newL 19 (N := 1) dL_law_17 rfl (nI_pos (by omega)) (nI_clamp (by omega)) (by omega) (by omega) (by omega) (fun a3 hq => ?_)
  have hL : stars [pt a3 (.inl (1, 1, .inr (.inl (fun _ => 0)))), rfo m gs0 0, flo o gs0 hd0] _ := stars_new hL hq
  have hL : stars [flo o gs0 hd0, rfo m gs0 0, pt a3 (.inl (1, 1, .inr (.inl (fun _ => 0))))] _ := stars_ixn hL 3 rfl [2, 1, 0] (by decide) rfl
  refine s_astore_n 20 (ls' := [some (.ref z.1), some (.ref o), some (.ref m), some (.ref a3), none, none, none]) dL_law_19 rfl (by decide) rfl ?_
  refine s_iconst 21 (v := nI 0) dL_law_20 rfl (by decide) ?_
  refine s_istore 23 (ls' := [some (.ref z.1), some (.ref o), some (.ref m), some (.ref a3), some (.int (nI (6 * 0))), none, none]) dL_law_21 rfl (by decide) rfl ?_
  exact l_law hL3 601 0 14 0 _ _ gs0 hd0 _ _ (by omega) (Nat.zero_le _) ov_0 x_0 (by omega) (by omega) (by omega) (by omega) hL
set_option maxRecDepth 20000 in
set_option maxHeartbeats 2000000 in
theorem st_D {s : State} {args : Array Value} (hts : ∀ w ∈ gw, w.before args s = true) (hti : ∀ w ∈ lw_tbl, w.before args s = true) : ∃ D : va_G, ∀ (k : Nat) (q : vw_C), vwCl[k]? = some q → u_Kn s q.1 q.2.1 q.2.2 (D.1 k) (D.2 k) := by
  obtain ⟨c0, j0, h0⟩ := u_known (C := RX0) (T := TX0) (N := 4) (n := 4) hts inG_X0 (hti (.instantiable RX0 4) (by decide +kernel))
  obtain ⟨c1, j1, h1⟩ := u_known (C := RX1) (T := TX1) (N := 20) (n := 20) hts inG_X1 (hti (.instantiable RX1 20) (by decide +kernel))
  obtain ⟨c2, j2, h2⟩ := u_known (C := RX2) (T := TX2) (N := 6) (n := 6) hts inG_X2 (hti (.instantiable RX2 6) (by decide +kernel))
  obtain ⟨c3, j3, h3⟩ := u_known (C := RX3) (T := TX3) (N := 17) (n := 17) hts inG_X3 (hti (.instantiable RX3 17) (by decide +kernel))
  obtain ⟨c4, j4, h4⟩ := u_known (C := RX4) (T := TX4) (N := 2) (n := 2) hts inG_X4 (hti (.instantiable RX4 2) (by decide +kernel))
  obtain ⟨c5, j5, h5⟩ := u_known (C := RX5) (T := TX5) (N := 5) (n := 5) hts inG_X5 (hti (.instantiable RX5 5) (by decide +kernel))
  obtain ⟨c6, j6, h6⟩ := u_known (C := RX8) (T := TX8) (N := 4) (n := 4) hts inG_X8 (hti (.instantiable RX8 4) (by decide +kernel))
  obtain ⟨c7, j7, h7⟩ := u_known (C := RX9) (T := TX9) (N := 4) (n := 4) hts inG_X9 (hti (.instantiable RX9 4) (by decide +kernel))
  obtain ⟨c8, j8, h8⟩ := u_known (C := RX10) (T := TX10) (N := 14) (n := 14) hts inG_X10 (hti (.instantiable RX10 14) (by decide +kernel))
  obtain ⟨c9, j9, h9⟩ := u_known (C := RX11) (T := TX11) (N := 9) (n := 9) hts inG_X11 (hti (.instantiable RX11 9) (by decide +kernel))
  obtain ⟨c10, j10, h10⟩ := u_known (C := RX12) (T := TX12) (N := 38) (n := 38) hts inG_X12 (hti (.instantiable RX12 38) (by decide +kernel))
  obtain ⟨c11, j11, h11⟩ := u_known (C := RX13) (T := TX13) (N := 4) (n := 4) hts inG_X13 (hti (.instantiable RX13 4) (by decide +kernel))
  obtain ⟨c12, j12, h12⟩ := u_known (C := RX14) (T := TX14) (N := 5) (n := 5) hts inG_X14 (hti (.instantiable RX14 5) (by decide +kernel))
  obtain ⟨c13, j13, h13⟩ := u_known (C := RX15) (T := TX15) (N := 38) (n := 38) hts inG_X15 (hti (.instantiable RX15 38) (by decide +kernel))
  refine ⟨(fun k => if k = 0 then c0 else if k = 1 then c1 else if k = 2 then c2 else if k = 3 then c3 else if k = 4 then c4 else if k = 5 then c5 else if k = 6 then c6 else if k = 7 then c7 else if k = 8 then c8 else if k = 9 then c9 else if k = 10 then c10 else if k = 11 then c11 else if k = 12 then c12 else c13, fun k => if k = 0 then j0 else if k = 1 then j1 else if k = 2 then j2 else if k = 3 then j3 else if k = 4 then j4 else if k = 5 then j5 else if k = 6 then j6 else if k = 7 then j7 else if k = 8 then j8 else if k = 9 then j9 else if k = 10 then j10 else if k = 11 then j11 else if k = 12 then j12 else j13), fun k q hq => ?_⟩
  match k, hq with
  | 0, hq => cases hq; exact h0
  | 1, hq => cases hq; exact h1
  | 2, hq => cases hq; exact h2
  | 3, hq => cases hq; exact h3
  | 4, hq => cases hq; exact h4
  | 5, hq => cases hq; exact h5
  | 6, hq => cases hq; exact h6
  | 7, hq => cases hq; exact h7
  | 8, hq => cases hq; exact h8
  | 9, hq => cases hq; exact h9
  | 10, hq => cases hq; exact h10
  | 11, hq => cases hq; exact h11
  | 12, hq => cases hq; exact h12
  | 13, hq => cases hq; exact h13
  | n + 14, hq => exact absurd hq (by simp)
theorem ar_of {s : State} {c : ClassId} {k : Class} {comp : ClassId} {ty : FieldType} (hk : s.vm.classes[c]? = some k) (hd : k.kind = .array comp ty) : ArrOfT s c ty := fun n z => ⟨fun j h => (by cases h), k, hk, comp, hd⟩
theorem ar_P {s : State} {args : Array Value} {ty : FieldType} (h : (Cond.arrayClass ty).before args s = true) : ∃ c, ArrOfT s c ty ∧ s.vm.findClass ("[" ++ ty.toString) = some c := by
  obtain ⟨c, k, comp, h1, h2, h3⟩ := Cond.arrayClass_spec h
  exact ⟨c, ar_of h2 h3, h1⟩
theorem ar_O {s : State} {args : Array Value} {C : String} (h : (Cond.arrayOver (.object C)).before args s = true) : ∃ c, ArrOfT s c (.object C) ∧ va_RA s c (.object C) := by
  obtain ⟨comp, c, k, h1, h2, h3, h4, h5⟩ := Cond.arrayOver_spec h
  exact ⟨c, ar_of h3 h4, k, comp, h3, h4, h1, h5⟩
theorem ar_A {s : State} {args : Array Value} {t : FieldType} (h : (Cond.arrayOver (.array t)).before args s = true) : ∃ c, ArrOfT s c (.array t) ∧ va_RA s c (.array t) := by
  obtain ⟨comp, c, k, h1, h2, h3, h4, h5⟩ := ao_specA h
  exact ⟨c, ar_of h3 h4, h5⟩
theorem st_A {s : State} {args : Array Value} (hti : ∀ w ∈ lw_tbl, w.before args s = true) : ∃ cA : Nat → ClassId, ∀ (k : Nat) (q : ClassId × FieldType), (e_tys cA)[k]? = some q → ArrOfT s q.1 q.2 ∧ va_RA s q.1 q.2 := by
  obtain ⟨c0, a0, b0⟩ := ar_P (hti (.arrayClass .int) (by decide +kernel))
  obtain ⟨c1, a1, b1⟩ := ar_P (hti (.arrayClass .long) (by decide +kernel))
  obtain ⟨c2, a2, b2⟩ := ar_O (hti (.arrayOver (.object "FieldLine$Device")) (by decide +kernel))
  obtain ⟨c3, a3, b3⟩ := ar_O (hti (.arrayOver (.object "FieldLine$Row")) (by decide +kernel))
  obtain ⟨c4, a4, b4⟩ := ar_O (hti (.arrayOver (.object "FieldLine$Job")) (by decide +kernel))
  obtain ⟨c5, a5, b5⟩ := ar_O (hti (.arrayOver (.object "FieldLine$Scan")) (by decide +kernel))
  obtain ⟨c6, a6, b6⟩ := ar_O (hti (.arrayOver (.object "FieldLineModel$Device")) (by decide +kernel))
  obtain ⟨c7, a7, b7⟩ := ar_A (hti (.arrayOver (.array .int)) (by decide +kernel))
  refine ⟨fun k => if k = 0 then c0 else if k = 1 then c1 else if k = 2 then c2 else if k = 3 then c3 else if k = 4 then c4 else if k = 5 then c5 else if k = 6 then c6 else c7, fun k q hq => ?_⟩
  match k, hq with
  | 0, hq => cases hq; exact ⟨a0, b0⟩
  | 1, hq => cases hq; exact ⟨a1, b1⟩
  | 2, hq => cases hq; exact ⟨a2, b2⟩
  | 3, hq => cases hq; exact ⟨a3, b3⟩
  | 4, hq => cases hq; exact ⟨a4, b4⟩
  | 5, hq => cases hq; exact ⟨a5, b5⟩
  | 6, hq => cases hq; exact ⟨a6, b6⟩
  | 7, hq => cases hq; exact ⟨a7, b7⟩
  | n + 8, hq => exact absurd hq (by simp [e_tys])
theorem st_K {s : State} {args : Array Value} (hti : ∀ w ∈ lw_tbl, w.before args s = true) : ∃ (D : va_G) (cA : Nat → ClassId), e_K D cA s := by
  obtain ⟨D, hD⟩ := st_D (fun w h => hti w (gw_sub h)) hti
  obtain ⟨cA, hA⟩ := st_A hti
  refine ⟨D, cA, ⟨hD, hA⟩, fun w hw => ?_, fun w hw => ?_⟩
  · have h1 := hti w (List.mem_filter.mp hw).1
    have h2 := (List.mem_filter.mp hw).2
    cases w <;> first | exact va_Nw.of rfl h1 | (exfalso; revert h2; simp [ew_nest])
  · have h1 := hti w (List.mem_filter.mp hw).1
    have h2 := (List.mem_filter.mp hw).2
    cases w with
    | arrayOver t => cases t with
      | object C => exact va_AO.of h1
      | array z => exact ao_movedA (Vm.Alike.refl _) h1
      | _ => exfalso; revert h2; simp [ew_over]
    | _ => exfalso; revert h2; simp [ew_over]
theorem st_KX {l : Launch} {s : State} {b : Nat} {A : Nat → Prop} (hl : l.stackTraces = false) (hti : ∀ w ∈ lw_tbl, w.before #[Value.ref b] s = true) (hgv : (Jvm.Cond.and given_1 narrow_1).before #[Value.ref b] s = true) (hA : ∀ a : Nat, a < s.heap.size → ¬ A a) : KX l A s := by
  have hs := flat_of_before _ hgv
  obtain ⟨a1, -, -, -, e1, -⟩ := Cond.exactly_spec (args := #[Value.ref b]) (first := s) (o := none) (s := s) (idx := []) (hs (.exactly (.string "FieldLine" 194) "java/lang/String") (by decide +kernel))
  obtain ⟨a2, -, -, -, e2, -⟩ := Cond.exactly_spec (args := #[Value.ref b]) (first := s) (o := none) (s := s) (idx := []) (hs (.exactly (.string "FieldLine" 330) "java/lang/String") (by decide +kernel))
  refine ⟨hl, vx_Zqof (hti (.laysStatic Bundle.tN "UNASSIGNED_STACK" Bundle.steD) (by decide +kernel)) (hti (.initialized Bundle.tN) (by decide +kernel)) (hs (.isRef (.static Bundle.tN "UNASSIGNED_STACK" Bundle.steD)) (by decide +kernel)) hA, vx_Zqof (hti (.laysStatic Bundle.tN "SUPPRESSED_SENTINEL" Bundle.listD) (by decide +kernel)) (hti (.initialized Bundle.tN) (by decide +kernel)) (hs (.isRef (.static Bundle.tN "SUPPRESSED_SENTINEL" Bundle.listD)) (by decide +kernel)) hA, ⟨a1, vk_R.of (hti (.stringRef "FieldLine" 194 "not 1 to 1000 ticks") (by decide +kernel)) e1⟩, ⟨a2, vk_R.of (hti (.stringRef "FieldLine" 330 "no such byte") (by decide +kernel)) e2⟩, fun w hw => ?_⟩
  have h1 := hti w (List.mem_filter.mp hw).1
  have h2 := (List.mem_filter.mp hw).2
  cases w with
  | declares x => exact va_tabs rfl rfl h1
  | castable a b => exact va_tabs rfl rfl h1
  | _ => exfalso; revert h2; simp
set_option maxRecDepth 20000 in
set_option maxHeartbeats 2000000 in
theorem whole_start {p : Program} {e : Env} {s : State} {m : MethodId} {below : List Frame} {meth : Method} {c : Code} (l : Launch) (htr : l.stackTraces = false) {b L : Nat} {xs : Nat → Int32} (hL : L ≤ 3072) (hnm : meth.name = x.name) (C0 : lw_At p s m meth c b L xs) : W p l e room_1 s m #[Value.ref b] below meth c s.heap [] 0 0 (lw_Z below #[Value.ref b] s) (entryFrame m ([Value.ref b] : List Value).toArray 7) := by
  obtain ⟨hx, hb, hr, hml, hown, hts, hX, hbl, hlocks, hgv⟩ := id C0
  obtain ⟨D, cA, hK⟩ := st_K hts
  have hkx : KX l (fun q : Nat => s.heap.size ≤ q) s := st_KX htr hts hgv (fun a h => Nat.not_le.mpr h)
  have hl := lv_entry ([.ref b]) (n := 7) (Nat.le_of_ble_eq_true rfl)
  rw [lg_entry_eq]
  have k := l_start (z := (b, L, xs)) hL p l e s m #[Value.ref b] below meth c s.heap [] D cA (fun q : Nat => s.heap.size ≤ q) (lg_sl ([.ref b]) ++ List.replicate (7 - (lg_sl ([.ref b])).length) Slot.unset).toArray ⟨hx, hb, hr, hml, hown, fun w h => hts w (gw_sub h), hK, hlocks, ⟨hnm, fun _ => hkx⟩, fun q h => h⟩ ⟨hX, hbl, Nat.not_le.mpr hbl, fun q h => h, rfl⟩ (fun a x h => by cases h) va_S.rf ⟨hl, fun v hv => ?_⟩
  · exact k
  · rcases List.mem_cons.mp hv with h | h
    · cases h; rfl
    · simp at h
