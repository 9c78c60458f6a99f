/-! the law: its cases tick and data -/
theorem s_wk {PP : PC9} {FF : FC9} {M : MD} {fr lo mc ms : Nat} {pc ce sl : Nat} {ls : List (Option Value)} {st : List Value} {h : eH} (ls' : List (Option Value)) (hs : ls_le ls' ls) (k : ES PP FF M fr lo mc ms pc ls' st h ce sl) : ES PP FF M fr lo mc ms pc ls st h ce sl := by
  intro p l e s m args below meth c H locs D cA A lsA X Z R S L
  have hs := ls_le_at ls' ls hs
  refine k p l e s m args below meth c H locs D cA A lsA X Z R S ⟨e_L.of L.1 hs, fun v hv => ?_⟩
  obtain ⟨i, hi⟩ := List.getElem?_of_mem hv
  exact L.2 v (List.mem_of_getElem? (hs i v hi))
theorem l_sldE {FF : FC9} {M : MD} {fr lo mc ms : Nat} {pc ce sl : Nat} {ls : List (Option Value)} {st : List Value} {h : eH} {z : Nat × Nat × (Nat → Int32)} (np : Nat) {j : Nat} {v : Int32} (hd : decode M.2.1 pc = .ok (.iaload, 1)) (hn : pc + 1 = np) (hj : j < z.2.1) (hL : z.2.1 ≤ 3072) (he : z.2.2 j = v) (k : ES (PPL z) FF M fr lo mc ms np ls (.int v :: st) h ce sl) : ES (PPL z) FF M fr lo mc ms pc ls (.int (nI j) :: .ref z.1 :: st) h ce sl := by
  subst he
  exact l_sld np hd hn hj hL k
theorem lg_self (x : Int64) : lg_cmp x x = 0 := by simp [lg_cmp]
theorem rs_253 {t : Nat} {M : MS} (h : okMS (bnd t) M) : (M.2.2.1.headD ([], 0, 0, 0, 0, 0)).1.length ≤ 253 := by
  have h1 := h.2.2.1
  cases e : M.2.2.1 with
  | nil => exact Nat.zero_le _
  | cons a l =>
    rw [e] at h1
    exact (h1 a List.mem_cons_self).2.1
set_option maxRecDepth 20000 in
set_option maxHeartbeats 2000000 in
theorem c_tick_x {z : Nat × Nat × (Nat → Int32)} {o m a3 k t th ce sl : Nat} {g : GS} {zh : HD} {f : Nat → Int64} {h : eH} (hL3 : z.2.1 ≤ 3072) (hk6 : 6 * k + 6 ≤ z.2.1) (hv : okV (bnd t) g) (hx : okX g) (ht14 : 14 ≤ t) (ht : t < 600000) (hce : ce + 150 ≤ 601024) (hsl : sl + 12600 ≤ 7293034) (hx9 : inI (z.2.2 (6 * k + 1)) (nI 1) (nI 1000) = false) (kk : ∀ (g9 : GS) (zh9 : HD) (t9 th9 ce9 sl9 : Nat) (f9 : Nat → Int64) (h9 : eH), okV (bnd t9) g9 → okX g9 → t ≤ t9 → t9 ≤ t + 1001 → ce9 ≤ ce + 150 → sl9 ≤ sl + 12600 → stars [flo o g9 zh9, rfo m g9 th9, pt a3 (.inl (1, 1, .inr (.inl f9)))] h9 → ES (PPL z) FFL mL_law 11 430 601024 7293034 1367 [some (.ref z.1), some (.ref o), some (.ref m), some (.ref a3), some (.int (nI (6 * k))), none, none] [] h9 ce9 sl9) (hL : stars [flo o g zh, rfo m g th, pt a3 (.inl (1, 1, .inr (.inl f)))] h) : ES (PPL z) FFL mL_law 11 430 601024 7293034 1093 [some (.ref z.1), some (.ref o), some (.ref m), some (.ref a3), some (.int (nI (6 * k))), none, none] [] h ce sl := by
  obtain ⟨tp, an, D, ⟨fr, wv, hs⟩, ⟨v, RQ, RS, SC, er, mb⟩, ck⟩ := g
  obtain ⟨h1, h2, N1, N2⟩ := zh
  have hW : okW (bnd t) (fr, wv, hs) := hv.1.2.2.1
  have hM : okMS (bnd t) (v, RQ, RS, SC, er, mb) := hv.1.2.2.2.1
  have hv9 : v 9 < 100000000 := Nat.lt_of_le_of_lt hM.1.2.2.2.2.2.1 (show 8 * t < 100000000 by omega)
  have hv1 : v 1 ≤ 2 := hM.1.1
  have hw2 : wv 2 ≤ t := hW.2.1.2.1
  have hw8 : wv 8 ≤ t := hW.2.1.2.2.2.2.2.2.2.1
  have hck : ck ≤ t := hv.1.2.2.2.2.1
  have lhs : hs.length ≤ 64 := hW.2.2.2
  have hb1 : ∀ e ∈ hs, e.1 < 1000000 ∧ e.2 < 1000 := fun e he => by have y := hW.2.2.1 e he; have y1 : e.1 ≤ t + 2000 := y.1; exact ⟨by omega, by omega⟩
  have hb2 : ∀ e ∈ hs, e.1 < 2 ^ 30 ∧ e.2 ≤ 340 := fun e he => by have y := hW.2.2.1 e he; have y1 : e.1 ≤ t + 2000 := y.1; exact ⟨by omega, y.2⟩
  have hL : stars [flo o (tp, an, D, (fr, wv, hs), (v, RQ, RS, SC, er, mb), ck) (h1, h2, N1, N2), rfo m (tp, an, D, (fr, wv, hs), (v, RQ, RS, SC, er, mb), ck) th, pt a3 (.inl (1, 1, .inr (.inl f)))] h := hL
  refine s_aload_n 1094 dL_law_1093 rfl rfl ?_
  refine s_aload_n 1095 dL_law_1094 rfl rfl ?_
  refine s_iload 1097 dL_law_1095 rfl rfl ?_
  refine s_iconst 1098 (v := (nI 1)) dL_law_1097 rfl (by decide) ?_
  refine s_iadd 1099 (v := (nI ((6 * k) + 1))) dL_law_1098 rfl (nI_add (6 * k) 1) ?_
  refine l_sldE 1100 (v := (z.2.2 (6 * k + 1))) dL_law_1099 rfl (show ((6 * k) + 1) < z.2.1 by omega) hL3 rfl ?_
  refine s_aload_n 1101 dL_law_1100 rfl rfl ?_
  refine sp_callSW 1104 hL [0, 2, 1] 3 rfl (by decide) (L1 := [flo o (tp, an, D, (fr, wv, hs), (v, RQ, RS, SC, er, mb), ck) (h1, h2, N1, N2), pt a3 (.inl (1, 1, .inr (.inl f)))]) (L2 := [rfo m (tp, an, D, (fr, wv, hs), (v, RQ, RS, SC, er, mb), ck) th]) rfl rfl dL_law_1101 rfl cw_L_116 (w_L_tick_x hx9) rfl rfl (Nat.le_of_ble_eq_true rfl) ⟨by decide, by omega, by omega⟩ (fun r1 L1 h q hL => ?_)
  obtain ⟨rfl, rfl⟩ := q
  have hL : stars [flo o (tp, an, D, (fr, wv, hs), (v, RQ, RS, SC, er, mb), ck) (h1, h2, N1, N2), pt a3 (.inl (1, 1, .inr (.inl f))), rfo m (tp, an, D, (fr, wv, hs), (v, RQ, RS, SC, er, mb), ck) th] h := hL
  have hL : stars [flo o (tp, an, D, (fr, wv, hs), (v, RQ, RS, SC, er, mb), ck) (h1, h2, N1, N2), rfo m (tp, an, D, (fr, wv, hs), (v, RQ, RS, SC, er, mb), ck) th, pt a3 (.inl (1, 1, .inr (.inl f)))] h := stars_ixn hL 3 rfl [0, 2, 1] (by decide) rfl
  refine s_istore 1106 (ls' := [some (.ref z.1), some (.ref o), some (.ref m), some (.ref a3), some (.int (nI (6 * k))), some (.int (nI 1)), none]) dL_law_1104 rfl (by decide) rfl ?_
  refine s_aload_n 1107 dL_law_1106 rfl rfl ?_
  refine s_aload_n 1108 dL_law_1107 rfl rfl ?_
  refine s_iload 1110 dL_law_1108 rfl rfl ?_
  refine s_iconst 1111 (v := (nI 1)) dL_law_1110 rfl (by decide) ?_
  refine s_iadd 1112 (v := (nI ((6 * k) + 1))) dL_law_1111 rfl (nI_add (6 * k) 1) ?_
  refine l_sldE 1113 (v := (z.2.2 (6 * k + 1))) dL_law_1112 rfl (show ((6 * k) + 1) < z.2.1 by omega) hL3 rfl ?_
  refine sp_callV 1116 hL [1, 0, 2] 3 rfl (by decide) (L1 := [rfo m (tp, an, D, (fr, wv, hs), (v, RQ, RS, SC, er, mb), ck) th]) (L2 := [flo o (tp, an, D, (fr, wv, hs), (v, RQ, RS, SC, er, mb), ck) (h1, h2, N1, N2), pt a3 (.inl (1, 1, .inr (.inl f)))]) rfl rfo_O 1 rfl dL_law_1113 rfl cv_L_121 (k_X15_tick_o hx9) rfl rfl (Nat.le_of_ble_eq_true rfl) ⟨by decide, by omega, by omega⟩ (fun r1 L1 h q hL => ?_)
  obtain ⟨rfl, rfl⟩ := q
  have hL : stars [rfo m (tp, an, D, (fr, wv, hs), (v, RQ, RS, SC, er, mb), ck) 1, flo o (tp, an, D, (fr, wv, hs), (v, RQ, RS, SC, er, mb), ck) (h1, h2, N1, N2), pt a3 (.inl (1, 1, .inr (.inl f)))] h := hL
  have hL : stars [flo o (tp, an, D, (fr, wv, hs), (v, RQ, RS, SC, er, mb), ck) (h1, h2, N1, N2), rfo m (tp, an, D, (fr, wv, hs), (v, RQ, RS, SC, er, mb), ck) 1, pt a3 (.inl (1, 1, .inr (.inl f)))] h := stars_ixn hL 3 rfl [1, 0, 2] (by decide) rfl
  refine s_istore 1118 (ls' := [some (.ref z.1), some (.ref o), some (.ref m), some (.ref a3), some (.int (nI (6 * k))), some (.int (nI 1)), some (.int (nI 0))]) dL_law_1116 rfl (by decide) rfl ?_
  refine s_aload_n 1119 dL_law_1118 rfl rfl ?_
  refine sp_callV 1122 hL [1, 0, 2] 3 rfl (by decide) (L1 := [rfo m (tp, an, D, (fr, wv, hs), (v, RQ, RS, SC, er, mb), ck) 1]) (L2 := [flo o (tp, an, D, (fr, wv, hs), (v, RQ, RS, SC, er, mb), ck) (h1, h2, N1, N2), pt a3 (.inl (1, 1, .inr (.inl f)))]) rfl rfo_O 1 rfl dL_law_1119 rfl cv_L_122 k_X15_thrown rfl rfl (Nat.le_of_ble_eq_true rfl) ⟨by decide, by omega, by omega⟩ (fun r1 L1 h q hL => ?_)
  obtain ⟨rfl, rfl⟩ := q
  have hL : stars [rfo m (tp, an, D, (fr, wv, hs), (v, RQ, RS, SC, er, mb), ck) 1, flo o (tp, an, D, (fr, wv, hs), (v, RQ, RS, SC, er, mb), ck) (h1, h2, N1, N2), pt a3 (.inl (1, 1, .inr (.inl f)))] h := hL
  have hL : stars [flo o (tp, an, D, (fr, wv, hs), (v, RQ, RS, SC, er, mb), ck) (h1, h2, N1, N2), rfo m (tp, an, D, (fr, wv, hs), (v, RQ, RS, SC, er, mb), ck) 1, pt a3 (.inl (1, 1, .inr (.inl f)))] h := stars_ixn hL 3 rfl [1, 0, 2] (by decide) rfl
  refine s_iload 1124 dL_law_1122 rfl rfl ?_
  refine s_icmp_eq 1129 1127 dL_law_1124 rfl rfl (fun c1 => ?_) (fun c1 => absurd c1 (fun z9 => z9 rfl))
  refine s_iload 1131 dL_law_1129 rfl rfl ?_
  refine s_if_ne 1146 1134 dL_law_1131 rfl rfl (fun c2 => ?_) (fun c2 => absurd c2 (by decide))
  refine s_goto 1367 dL_law_1146 rfl ?_
  refine s_wk [some (.ref z.1), some (.ref o), some (.ref m), some (.ref a3), some (.int (nI (6 * k))), none, none] ?_ ?_
  · exact ⟨rfl, rfl, rfl, rfl, rfl, trivial⟩
  exact kk _ _ t _ _ _ _ h hv hx (by omega) (by omega) (by omega) (by omega) hL
set_option maxRecDepth 20000 in
set_option maxHeartbeats 2000000 in
theorem c_tick_i {z : Nat × Nat × (Nat → Int32)} {o m a3 k t th ce sl : Nat} {g : GS} {zh : HD} {f : Nat → Int64} {h : eH} (hL3 : z.2.1 ≤ 3072) (hk6 : 6 * k + 6 ≤ z.2.1) (hv : okV (bnd t) g) (hx : okX g) (ht14 : 14 ≤ t) (ht : t < 600000) (hce : ce + 150 ≤ 601024) (hsl : sl + 12600 ≤ 7293034) {nt : Nat} (hx9 : (z.2.2 (6 * k + 1)) = nI nt) (na : 1 ≤ nt) (nb : nt ≤ 1000) (kk : ∀ (g9 : GS) (zh9 : HD) (t9 th9 ce9 sl9 : Nat) (f9 : Nat → Int64) (h9 : eH), okV (bnd t9) g9 → okX g9 → t ≤ t9 → t9 ≤ t + 1001 → ce9 ≤ ce + 150 → sl9 ≤ sl + 12600 → stars [flo o g9 zh9, rfo m g9 th9, pt a3 (.inl (1, 1, .inr (.inl f9)))] h9 → ES (PPL z) FFL mL_law 11 430 601024 7293034 1367 [some (.ref z.1), some (.ref o), some (.ref m), some (.ref a3), some (.int (nI (6 * k))), none, none] [] h9 ce9 sl9) (hL : stars [flo o g zh, rfo m g th, pt a3 (.inl (1, 1, .inr (.inl f)))] h) : ES (PPL z) FFL mL_law 11 430 601024 7293034 1093 [some (.ref z.1), some (.ref o), some (.ref m), some (.ref a3), some (.int (nI (6 * k))), none, none] [] h ce sl := by
  obtain ⟨tp, an, D, ⟨fr, wv, hs⟩, ⟨v, RQ, RS, SC, er, mb⟩, ck⟩ := g
  obtain ⟨h1, h2, N1, N2⟩ := zh
  have hW : okW (bnd t) (fr, wv, hs) := hv.1.2.2.1
  have hM : okMS (bnd t) (v, RQ, RS, SC, er, mb) := hv.1.2.2.2.1
  have hv9 : v 9 < 100000000 := Nat.lt_of_le_of_lt hM.1.2.2.2.2.2.1 (show 8 * t < 100000000 by omega)
  have hv1 : v 1 ≤ 2 := hM.1.1
  have hw2 : wv 2 ≤ t := hW.2.1.2.1
  have hw8 : wv 8 ≤ t := hW.2.1.2.2.2.2.2.2.2.1
  have hck : ck ≤ t := hv.1.2.2.2.2.1
  have lhs : hs.length ≤ 64 := hW.2.2.2
  have hb1 : ∀ e ∈ hs, e.1 < 1000000 ∧ e.2 < 1000 := fun e he => by have y := hW.2.2.1 e he; have y1 : e.1 ≤ t + 2000 := y.1; exact ⟨by omega, by omega⟩
  have hb2 : ∀ e ∈ hs, e.1 < 2 ^ 30 ∧ e.2 ≤ 340 := fun e he => by have y := hW.2.2.1 e he; have y1 : e.1 ≤ t + 2000 := y.1; exact ⟨by omega, y.2⟩
  have hL : stars [flo o (tp, an, D, (fr, wv, hs), (v, RQ, RS, SC, er, mb), ck) (h1, h2, N1, N2), rfo m (tp, an, D, (fr, wv, hs), (v, RQ, RS, SC, er, mb), ck) th, pt a3 (.inl (1, 1, .inr (.inl f)))] h := hL
  have e9 : (tkN nt ((tp, an, D, (fr, wv, hs), (v, RQ, RS, SC, er, mb), ck), (h1, h2, N1, N2))).1 = tkGS nt (tp, an, D, (fr, wv, hs), (v, RQ, RS, SC, er, mb), ck) := tkN_1 _ nt
  refine s_aload_n 1094 dL_law_1093 rfl rfl ?_
  refine s_aload_n 1095 dL_law_1094 rfl rfl ?_
  refine s_iload 1097 dL_law_1095 rfl rfl ?_
  refine s_iconst 1098 (v := (nI 1)) dL_law_1097 rfl (by decide) ?_
  refine s_iadd 1099 (v := (nI ((6 * k) + 1))) dL_law_1098 rfl (nI_add (6 * k) 1) ?_
  refine l_sldE 1100 (v := (nI nt)) dL_law_1099 rfl (show ((6 * k) + 1) < z.2.1 by omega) hL3 hx9 ?_
  refine s_aload_n 1101 dL_law_1100 rfl rfl ?_
  refine sp_callSW 1104 hL [0, 2, 1] 3 rfl (by decide) (L1 := [flo o (tp, an, D, (fr, wv, hs), (v, RQ, RS, SC, er, mb), ck) (h1, h2, N1, N2), pt a3 (.inl (1, 1, .inr (.inl f)))]) (L2 := [rfo m (tp, an, D, (fr, wv, hs), (v, RQ, RS, SC, er, mb), ck) th]) rfl rfl dL_law_1101 rfl cw_L_116 (w_L_tick hv (by omega) na nb) rfl rfl (Nat.le_of_ble_eq_true rfl) ⟨by decide, by omega, by omega⟩ (fun r1 L1 h q hL => ?_)
  obtain ⟨rfl, rfl⟩ := q
  have hL : stars [flo o (tkN nt ((tp, an, D, (fr, wv, hs), (v, RQ, RS, SC, er, mb), ck), (h1, h2, N1, N2))).1 (tkN nt ((tp, an, D, (fr, wv, hs), (v, RQ, RS, SC, er, mb), ck), (h1, h2, N1, N2))).2, pt a3 (.inl (1, 1, .inr (.inl (vp_updL f 0 (nI ((tkN nt ((tp, an, D, (fr, wv, hs), (v, RQ, RS, SC, er, mb), ck), (h1, h2, N1, N2))).1.2.2.2.1.2.1 9) - nI (((tp, an, D, (fr, wv, hs), (v, RQ, RS, SC, er, mb), ck) : GS).2.2.2.1.2.1 9)).toInt64)))), rfo m (tp, an, D, (fr, wv, hs), (v, RQ, RS, SC, er, mb), ck) th] h := hL
  have hL : stars [flo o (tkN nt ((tp, an, D, (fr, wv, hs), (v, RQ, RS, SC, er, mb), ck), (h1, h2, N1, N2))).1 (tkN nt ((tp, an, D, (fr, wv, hs), (v, RQ, RS, SC, er, mb), ck), (h1, h2, N1, N2))).2, rfo m (tp, an, D, (fr, wv, hs), (v, RQ, RS, SC, er, mb), ck) th, pt a3 (.inl (1, 1, .inr (.inl (vp_updL f 0 (nI ((tkN nt ((tp, an, D, (fr, wv, hs), (v, RQ, RS, SC, er, mb), ck), (h1, h2, N1, N2))).1.2.2.2.1.2.1 9) - nI (((tp, an, D, (fr, wv, hs), (v, RQ, RS, SC, er, mb), ck) : GS).2.2.2.1.2.1 9)).toInt64))))] h := stars_ixn hL 3 rfl [0, 2, 1] (by decide) rfl
  refine s_istore 1106 (ls' := [some (.ref z.1), some (.ref o), some (.ref m), some (.ref a3), some (.int (nI (6 * k))), some (.int (nI 0)), none]) dL_law_1104 rfl (by decide) rfl ?_
  refine s_aload_n 1107 dL_law_1106 rfl rfl ?_
  refine s_aload_n 1108 dL_law_1107 rfl rfl ?_
  refine s_iload 1110 dL_law_1108 rfl rfl ?_
  refine s_iconst 1111 (v := (nI 1)) dL_law_1110 rfl (by decide) ?_
  refine s_iadd 1112 (v := (nI ((6 * k) + 1))) dL_law_1111 rfl (nI_add (6 * k) 1) ?_
  refine l_sldE 1113 (v := (nI nt)) dL_law_1112 rfl (show ((6 * k) + 1) < z.2.1 by omega) hL3 hx9 ?_
  refine sp_callV 1116 hL [1, 0, 2] 3 rfl (by decide) (L1 := [rfo m (tp, an, D, (fr, wv, hs), (v, RQ, RS, SC, er, mb), ck) th]) (L2 := [flo o (tkN nt ((tp, an, D, (fr, wv, hs), (v, RQ, RS, SC, er, mb), ck), (h1, h2, N1, N2))).1 (tkN nt ((tp, an, D, (fr, wv, hs), (v, RQ, RS, SC, er, mb), ck), (h1, h2, N1, N2))).2, pt a3 (.inl (1, 1, .inr (.inl (vp_updL f 0 (nI ((tkN nt ((tp, an, D, (fr, wv, hs), (v, RQ, RS, SC, er, mb), ck), (h1, h2, N1, N2))).1.2.2.2.1.2.1 9) - nI (((tp, an, D, (fr, wv, hs), (v, RQ, RS, SC, er, mb), ck) : GS).2.2.2.1.2.1 9)).toInt64))))]) rfl rfo_O 1 rfl dL_law_1113 rfl cv_L_121 (k_X15_tick7 hv hx (by omega) na nb) rfl rfl (Nat.le_of_ble_eq_true rfl) ⟨by decide, by omega, by omega⟩ (fun r1 L1 h q hL => ?_)
  obtain ⟨rfl, rfl⟩ := q
  have hL : stars [rfo m (tkGS nt (tp, an, D, (fr, wv, hs), (v, RQ, RS, SC, er, mb), ck)) 0, flo o (tkN nt ((tp, an, D, (fr, wv, hs), (v, RQ, RS, SC, er, mb), ck), (h1, h2, N1, N2))).1 (tkN nt ((tp, an, D, (fr, wv, hs), (v, RQ, RS, SC, er, mb), ck), (h1, h2, N1, N2))).2, pt a3 (.inl (1, 1, .inr (.inl (vp_updL f 0 (nI ((tkN nt ((tp, an, D, (fr, wv, hs), (v, RQ, RS, SC, er, mb), ck), (h1, h2, N1, N2))).1.2.2.2.1.2.1 9) - nI (((tp, an, D, (fr, wv, hs), (v, RQ, RS, SC, er, mb), ck) : GS).2.2.2.1.2.1 9)).toInt64))))] h := hL
  rw [e9] at hL
  have hL : stars [flo o (tkGS nt (tp, an, D, (fr, wv, hs), (v, RQ, RS, SC, er, mb), ck)) (tkN nt ((tp, an, D, (fr, wv, hs), (v, RQ, RS, SC, er, mb), ck), (h1, h2, N1, N2))).2, rfo m (tkGS nt (tp, an, D, (fr, wv, hs), (v, RQ, RS, SC, er, mb), ck)) 0, pt a3 (.inl (1, 1, .inr (.inl (vp_updL f 0 (nI ((tkGS nt (tp, an, D, (fr, wv, hs), (v, RQ, RS, SC, er, mb), ck)).2.2.2.1.2.1 9) - nI (((tp, an, D, (fr, wv, hs), (v, RQ, RS, SC, er, mb), ck) : GS).2.2.2.1.2.1 9)).toInt64))))] h := stars_ixn hL 3 rfl [1, 0, 2] (by decide) rfl
  refine s_istore 1118 (ls' := [some (.ref z.1), some (.ref o), some (.ref m), some (.ref a3), some (.int (nI (6 * k))), some (.int (nI 0)), some (.int (nI ((tkGS nt (tp, an, D, (fr, wv, hs), (v, RQ, RS, SC, er, mb), ck)).2.2.2.1.2.1 9) - nI (wv 9)))]) dL_law_1116 rfl (by decide) rfl ?_
  refine s_aload_n 1119 dL_law_1118 rfl rfl ?_
  refine sp_callV 1122 hL [1, 0, 2] 3 rfl (by decide) (L1 := [rfo m (tkGS nt (tp, an, D, (fr, wv, hs), (v, RQ, RS, SC, er, mb), ck)) 0]) (L2 := [flo o (tkGS nt (tp, an, D, (fr, wv, hs), (v, RQ, RS, SC, er, mb), ck)) (tkN nt ((tp, an, D, (fr, wv, hs), (v, RQ, RS, SC, er, mb), ck), (h1, h2, N1, N2))).2, pt a3 (.inl (1, 1, .inr (.inl (vp_updL f 0 (nI ((tkGS nt (tp, an, D, (fr, wv, hs), (v, RQ, RS, SC, er, mb), ck)).2.2.2.1.2.1 9) - nI (((tp, an, D, (fr, wv, hs), (v, RQ, RS, SC, er, mb), ck) : GS).2.2.2.1.2.1 9)).toInt64))))]) rfl rfo_O 1 rfl dL_law_1119 rfl cv_L_122 k_X15_thrown rfl rfl (Nat.le_of_ble_eq_true rfl) ⟨by decide, by omega, by omega⟩ (fun r1 L1 h q hL => ?_)
  obtain ⟨rfl, rfl⟩ := q
  have hL : stars [rfo m (tkGS nt (tp, an, D, (fr, wv, hs), (v, RQ, RS, SC, er, mb), ck)) 0, flo o (tkGS nt (tp, an, D, (fr, wv, hs), (v, RQ, RS, SC, er, mb), ck)) (tkN nt ((tp, an, D, (fr, wv, hs), (v, RQ, RS, SC, er, mb), ck), (h1, h2, N1, N2))).2, pt a3 (.inl (1, 1, .inr (.inl (vp_updL f 0 (nI ((tkGS nt (tp, an, D, (fr, wv, hs), (v, RQ, RS, SC, er, mb), ck)).2.2.2.1.2.1 9) - nI (((tp, an, D, (fr, wv, hs), (v, RQ, RS, SC, er, mb), ck) : GS).2.2.2.1.2.1 9)).toInt64))))] h := hL
  have hL : stars [flo o (tkGS nt (tp, an, D, (fr, wv, hs), (v, RQ, RS, SC, er, mb), ck)) (tkN nt ((tp, an, D, (fr, wv, hs), (v, RQ, RS, SC, er, mb), ck), (h1, h2, N1, N2))).2, rfo m (tkGS nt (tp, an, D, (fr, wv, hs), (v, RQ, RS, SC, er, mb), ck)) 0, pt a3 (.inl (1, 1, .inr (.inl (vp_updL f 0 (nI ((tkGS nt (tp, an, D, (fr, wv, hs), (v, RQ, RS, SC, er, mb), ck)).2.2.2.1.2.1 9) - nI (((tp, an, D, (fr, wv, hs), (v, RQ, RS, SC, er, mb), ck) : GS).2.2.2.1.2.1 9)).toInt64))))] h := stars_ixn hL 3 rfl [1, 0, 2] (by decide) rfl
  refine s_iload 1124 dL_law_1122 rfl rfl ?_
  refine s_icmp_eq 1129 1127 dL_law_1124 rfl rfl (fun c1 => ?_) (fun c1 => absurd c1 (fun z9 => z9 rfl))
  refine s_iload 1131 dL_law_1129 rfl rfl ?_
  refine s_if_ne 1146 1134 dL_law_1131 rfl rfl (fun c2 => absurd rfl c2) (fun c2 => ?_)
  refine s_aload_n 1135 dL_law_1134 rfl rfl ?_
  refine s_iconst 1136 (v := nI 0) dL_law_1135 rfl (by decide) ?_
  refine s_lald 1137 (v := (nI ((tkGS nt (tp, an, D, (fr, wv, hs), (v, RQ, RS, SC, er, mb), ck)).2.2.2.1.2.1 9) - nI (((tp, an, D, (fr, wv, hs), (v, RQ, RS, SC, er, mb), ck) : GS).2.2.2.1.2.1 9)).toInt64) dL_law_1136 rfl (stars_at _ 2 hL rfl) (vp_in_nI (by decide) (by decide)) rfl ?_
  refine s_iload 1139 dL_law_1137 rfl rfl ?_
  refine s_i2l 1140 (v := (nI ((tkGS nt (tp, an, D, (fr, wv, hs), (v, RQ, RS, SC, er, mb), ck)).2.2.2.1.2.1 9) - nI (wv 9)).toInt64) dL_law_1139 rfl rfl ?_
  refine s_lcmp 1141 (v := 0) dL_law_1140 rfl (lg_self _) ?_
  refine s_if_eq 1146 1144 dL_law_1141 rfl rfl (fun c3 => ?_) (fun c3 => absurd rfl c3)
  refine s_goto 1367 dL_law_1146 rfl ?_
  refine s_wk [some (.ref z.1), some (.ref o), some (.ref m), some (.ref a3), some (.int (nI (6 * k))), none, none] ?_ ?_
  · exact ⟨rfl, rfl, rfl, rfl, rfl, trivial⟩
  exact kk _ _ (t + nt) _ _ _ _ h (ov_tk hv nt) (tk_x hx hv nt (by omega)).1 (by omega) (by omega) (by omega) (by omega) hL
set_option maxRecDepth 20000 in
set_option maxHeartbeats 2000000 in
theorem c_data_x {z : Nat × Nat × (Nat → Int32)} {o m a3 k t th ce sl : Nat} {g : GS} {zh : HD} {f : Nat → Int64} {h : eH} (hL3 : z.2.1 ≤ 3072) (hk6 : 6 * k + 6 ≤ z.2.1) (hv : okV (bnd t) g) (hx : okX g) (ht14 : 14 ≤ t) (ht : t < 600000) (hce : ce + 150 ≤ 601024) (hsl : sl + 12600 ≤ 7293034) (hx9 : g.2.2.2.2.1.2.2.1.length = 0 ∨ dIn (hdS g).1.length (z.2.2 (6 * k + 1)) = false) (kk : ∀ (g9 : GS) (zh9 : HD) (t9 th9 ce9 sl9 : Nat) (f9 : Nat → Int64) (h9 : eH), okV (bnd t9) g9 → okX g9 → t ≤ t9 → t9 ≤ t + 1001 → ce9 ≤ ce + 150 → sl9 ≤ sl + 12600 → stars [flo o g9 zh9, rfo m g9 th9, pt a3 (.inl (1, 1, .inr (.inl f9)))] h9 → ES (PPL z) FFL mL_law 11 430 601024 7293034 1367 [some (.ref z.1), some (.ref o), some (.ref m), some (.ref a3), some (.int (nI (6 * k))), none, none] [] h9 ce9 sl9) (hL : stars [flo o g zh, rfo m g th, pt a3 (.inl (1, 1, .inr (.inl f)))] h) : ES (PPL z) FFL mL_law 11 430 601024 7293034 1174 [some (.ref z.1), some (.ref o), some (.ref m), some (.ref a3), some (.int (nI (6 * k))), none, none] [] h ce sl := by
  obtain ⟨tp, an, D, ⟨fr, wv, hs⟩, ⟨v, RQ, RS, SC, er, mb⟩, ck⟩ := g
  obtain ⟨h1, h2, N1, N2⟩ := zh
  have hW : okW (bnd t) (fr, wv, hs) := hv.1.2.2.1
  have hM : okMS (bnd t) (v, RQ, RS, SC, er, mb) := hv.1.2.2.2.1
  have hv9 : v 9 < 100000000 := Nat.lt_of_le_of_lt hM.1.2.2.2.2.2.1 (show 8 * t < 100000000 by omega)
  have hv1 : v 1 ≤ 2 := hM.1.1
  have hw2 : wv 2 ≤ t := hW.2.1.2.1
  have hw8 : wv 8 ≤ t := hW.2.1.2.2.2.2.2.2.2.1
  have hck : ck ≤ t := hv.1.2.2.2.2.1
  have lhs : hs.length ≤ 64 := hW.2.2.2
  have hb1 : ∀ e ∈ hs, e.1 < 1000000 ∧ e.2 < 1000 := fun e he => by have y := hW.2.2.1 e he; have y1 : e.1 ≤ t + 2000 := y.1; exact ⟨by omega, by omega⟩
  have hb2 : ∀ e ∈ hs, e.1 < 2 ^ 30 ∧ e.2 ≤ 340 := fun e he => by have y := hW.2.2.1 e he; have y1 : e.1 ≤ t + 2000 := y.1; exact ⟨by omega, y.2⟩
  have hL : stars [flo o (tp, an, D, (fr, wv, hs), (v, RQ, RS, SC, er, mb), ck) (h1, h2, N1, N2), rfo m (tp, an, D, (fr, wv, hs), (v, RQ, RS, SC, er, mb), ck) th, pt a3 (.inl (1, 1, .inr (.inl f)))] h := hL
  have hl3 := rs_253 hM
  refine s_aload_n 1175 dL_law_1174 rfl rfl ?_
  refine s_aload_n 1176 dL_law_1175 rfl rfl ?_
  refine s_iload 1178 dL_law_1176 rfl rfl ?_
  refine s_iconst 1179 (v := (nI 1)) dL_law_1178 rfl (by decide) ?_
  refine s_iadd 1180 (v := (nI ((6 * k) + 1))) dL_law_1179 rfl (nI_add (6 * k) 1) ?_
  refine l_sldE 1181 (v := (z.2.2 (6 * k + 1))) dL_law_1180 rfl (show ((6 * k) + 1) < z.2.1 by omega) hL3 rfl ?_
  refine s_aload_n 1182 dL_law_1181 rfl rfl ?_
  refine sp_callSW 1185 hL [0, 2, 1] 3 rfl (by decide) (L1 := [flo o (tp, an, D, (fr, wv, hs), (v, RQ, RS, SC, er, mb), ck) (h1, h2, N1, N2), pt a3 (.inl (1, 1, .inr (.inl f)))]) (L2 := [rfo m (tp, an, D, (fr, wv, hs), (v, RQ, RS, SC, er, mb), ck) th]) rfl rfl dL_law_1182 rfl cw_L_129 (w_L_data_x hx9) rfl rfl (Nat.le_of_ble_eq_true rfl) ⟨by decide, by omega, by omega⟩ (fun r1 L1 h q hL => ?_)
  obtain ⟨rfl, rfl⟩ := q
  have hL : stars [flo o (tp, an, D, (fr, wv, hs), (v, RQ, RS, SC, er, mb), ck) (h1, h2, N1, N2), pt a3 (.inl (1, 1, .inr (.inl f))), rfo m (tp, an, D, (fr, wv, hs), (v, RQ, RS, SC, er, mb), ck) th] h := hL
  have hL : stars [flo o (tp, an, D, (fr, wv, hs), (v, RQ, RS, SC, er, mb), ck) (h1, h2, N1, N2), rfo m (tp, an, D, (fr, wv, hs), (v, RQ, RS, SC, er, mb), ck) th, pt a3 (.inl (1, 1, .inr (.inl f)))] h := stars_ixn hL 3 rfl [0, 2, 1] (by decide) rfl
  refine s_istore 1187 (ls' := [some (.ref z.1), some (.ref o), some (.ref m), some (.ref a3), some (.int (nI (6 * k))), some (.int (nI 1)), none]) dL_law_1185 rfl (by decide) rfl ?_
  refine s_aload_n 1188 dL_law_1187 rfl rfl ?_
  refine s_aload_n 1189 dL_law_1188 rfl rfl ?_
  refine s_iload 1191 dL_law_1189 rfl rfl ?_
  refine s_iconst 1192 (v := (nI 1)) dL_law_1191 rfl (by decide) ?_
  refine s_iadd 1193 (v := (nI ((6 * k) + 1))) dL_law_1192 rfl (nI_add (6 * k) 1) ?_
  refine l_sldE 1194 (v := (z.2.2 (6 * k + 1))) dL_law_1193 rfl (show ((6 * k) + 1) < z.2.1 by omega) hL3 rfl ?_
  refine sp_callV 1197 hL [1, 0, 2] 3 rfl (by decide) (L1 := [rfo m (tp, an, D, (fr, wv, hs), (v, RQ, RS, SC, er, mb), ck) th]) (L2 := [flo o (tp, an, D, (fr, wv, hs), (v, RQ, RS, SC, er, mb), ck) (h1, h2, N1, N2), pt a3 (.inl (1, 1, .inr (.inl f)))]) rfl rfo_O 1 rfl dL_law_1194 rfl cv_L_131 (k_X15_data_o hl3 hx9) rfl rfl (Nat.le_of_ble_eq_true rfl) ⟨by decide, by omega, by omega⟩ (fun r1 L1 h q hL => ?_)
  obtain ⟨rfl, rfl⟩ := q
  have hL : stars [rfo m (tp, an, D, (fr, wv, hs), (v, RQ, RS, SC, er, mb), ck) 1, flo o (tp, an, D, (fr, wv, hs), (v, RQ, RS, SC, er, mb), ck) (h1, h2, N1, N2), pt a3 (.inl (1, 1, .inr (.inl f)))] h := hL
  have hL : stars [flo o (tp, an, D, (fr, wv, hs), (v, RQ, RS, SC, er, mb), ck) (h1, h2, N1, N2), rfo m (tp, an, D, (fr, wv, hs), (v, RQ, RS, SC, er, mb), ck) 1, pt a3 (.inl (1, 1, .inr (.inl f)))] h := stars_ixn hL 3 rfl [1, 0, 2] (by decide) rfl
  refine s_istore 1199 (ls' := [some (.ref z.1), some (.ref o), some (.ref m), some (.ref a3), some (.int (nI (6 * k))), some (.int (nI 1)), some (.int (nI 0))]) dL_law_1197 rfl (by decide) rfl ?_
  refine s_aload_n 1200 dL_law_1199 rfl rfl ?_
  refine sp_callV 1203 hL [1, 0, 2] 3 rfl (by decide) (L1 := [rfo m (tp, an, D, (fr, wv, hs), (v, RQ, RS, SC, er, mb), ck) 1]) (L2 := [flo o (tp, an, D, (fr, wv, hs), (v, RQ, RS, SC, er, mb), ck) (h1, h2, N1, N2), pt a3 (.inl (1, 1, .inr (.inl f)))]) rfl rfo_O 1 rfl dL_law_1200 rfl cv_L_122 k_X15_thrown rfl rfl (Nat.le_of_ble_eq_true rfl) ⟨by decide, by omega, by omega⟩ (fun r1 L1 h q hL => ?_)
  obtain ⟨rfl, rfl⟩ := q
  have hL : stars [rfo m (tp, an, D, (fr, wv, hs), (v, RQ, RS, SC, er, mb), ck) 1, flo o (tp, an, D, (fr, wv, hs), (v, RQ, RS, SC, er, mb), ck) (h1, h2, N1, N2), pt a3 (.inl (1, 1, .inr (.inl f)))] h := hL
  have hL : stars [flo o (tp, an, D, (fr, wv, hs), (v, RQ, RS, SC, er, mb), ck) (h1, h2, N1, N2), rfo m (tp, an, D, (fr, wv, hs), (v, RQ, RS, SC, er, mb), ck) 1, pt a3 (.inl (1, 1, .inr (.inl f)))] h := stars_ixn hL 3 rfl [1, 0, 2] (by decide) rfl
  refine s_iload 1205 dL_law_1203 rfl rfl ?_
  refine s_icmp_eq 1210 1208 dL_law_1205 rfl rfl (fun c1 => ?_) (fun c1 => absurd c1 (fun z9 => z9 rfl))
  refine s_iload 1212 dL_law_1210 rfl rfl ?_
  refine s_if_ne 1227 1215 dL_law_1212 rfl rfl (fun c2 => ?_) (fun c2 => absurd c2 (by decide))
  refine s_goto 1367 dL_law_1227 rfl ?_
  refine s_wk [some (.ref z.1), some (.ref o), some (.ref m), some (.ref a3), some (.int (nI (6 * k))), none, none] ?_ ?_
  · exact ⟨rfl, rfl, rfl, rfl, rfl, trivial⟩
  exact kk _ _ t _ _ _ _ h hv hx (by omega) (by omega) (by omega) (by omega) hL
set_option maxRecDepth 20000 in
set_option maxHeartbeats 2000000 in
theorem c_data_i {z : Nat × Nat × (Nat → Int32)} {o m a3 k t th ce sl : Nat} {g : GS} {zh : HD} {f : Nat → Int64} {h : eH} (hL3 : z.2.1 ≤ 3072) (hk6 : 6 * k + 6 ≤ z.2.1) (hv : okV (bnd t) g) (hx : okX g) (ht14 : 14 ≤ t) (ht : t < 600000) (hce : ce + 150 ≤ 601024) (hsl : sl + 12600 ≤ 7293034) {kd : Nat} (hx9 : (z.2.2 (6 * k + 1)) = nI kd) (h00 : 0 < g.2.2.2.2.1.2.2.1.length) (hkd : kd < (hdS g).1.length) (kk : ∀ (g9 : GS) (zh9 : HD) (t9 th9 ce9 sl9 : Nat) (f9 : Nat → Int64) (h9 : eH), okV (bnd t9) g9 → okX g9 → t ≤ t9 → t9 ≤ t + 1001 → ce9 ≤ ce + 150 → sl9 ≤ sl + 12600 → stars [flo o g9 zh9, rfo m g9 th9, pt a3 (.inl (1, 1, .inr (.inl f9)))] h9 → ES (PPL z) FFL mL_law 11 430 601024 7293034 1367 [some (.ref z.1), some (.ref o), some (.ref m), some (.ref a3), some (.int (nI (6 * k))), none, none] [] h9 ce9 sl9) (hL : stars [flo o g zh, rfo m g th, pt a3 (.inl (1, 1, .inr (.inl f)))] h) : ES (PPL z) FFL mL_law 11 430 601024 7293034 1174 [some (.ref z.1), some (.ref o), some (.ref m), some (.ref a3), some (.int (nI (6 * k))), none, none] [] h ce sl := by
  obtain ⟨tp, an, D, ⟨fr, wv, hs⟩, ⟨v, RQ, RS, SC, er, mb⟩, ck⟩ := g
  obtain ⟨h1, h2, N1, N2⟩ := zh
  have hW : okW (bnd t) (fr, wv, hs) := hv.1.2.2.1
  have hM : okMS (bnd t) (v, RQ, RS, SC, er, mb) := hv.1.2.2.2.1
  have hv9 : v 9 < 100000000 := Nat.lt_of_le_of_lt hM.1.2.2.2.2.2.1 (show 8 * t < 100000000 by omega)
  have hv1 : v 1 ≤ 2 := hM.1.1
  have hw2 : wv 2 ≤ t := hW.2.1.2.1
  have hw8 : wv 8 ≤ t := hW.2.1.2.2.2.2.2.2.2.1
  have hck : ck ≤ t := hv.1.2.2.2.2.1
  have lhs : hs.length ≤ 64 := hW.2.2.2
  have hb1 : ∀ e ∈ hs, e.1 < 1000000 ∧ e.2 < 1000 := fun e he => by have y := hW.2.2.1 e he; have y1 : e.1 ≤ t + 2000 := y.1; exact ⟨by omega, by omega⟩
  have hb2 : ∀ e ∈ hs, e.1 < 2 ^ 30 ∧ e.2 ≤ 340 := fun e he => by have y := hW.2.2.1 e he; have y1 : e.1 ≤ t + 2000 := y.1; exact ⟨by omega, y.2⟩
  have hL : stars [flo o (tp, an, D, (fr, wv, hs), (v, RQ, RS, SC, er, mb), ck) (h1, h2, N1, N2), rfo m (tp, an, D, (fr, wv, hs), (v, RQ, RS, SC, er, mb), ck) th, pt a3 (.inl (1, 1, .inr (.inl f)))] h := hL
  have hl3 := rs_253 hM
  refine s_aload_n 1175 dL_law_1174 rfl rfl ?_
  refine s_aload_n 1176 dL_law_1175 rfl rfl ?_
  refine s_iload 1178 dL_law_1176 rfl rfl ?_
  refine s_iconst 1179 (v := (nI 1)) dL_law_1178 rfl (by decide) ?_
  refine s_iadd 1180 (v := (nI ((6 * k) + 1))) dL_law_1179 rfl (nI_add (6 * k) 1) ?_
  refine l_sldE 1181 (v := (nI kd)) dL_law_1180 rfl (show ((6 * k) + 1) < z.2.1 by omega) hL3 hx9 ?_
  refine s_aload_n 1182 dL_law_1181 rfl rfl ?_
  refine sp_callSW 1185 hL [0, 2, 1] 3 rfl (by decide) (L1 := [flo o (tp, an, D, (fr, wv, hs), (v, RQ, RS, SC, er, mb), ck) (h1, h2, N1, N2), pt a3 (.inl (1, 1, .inr (.inl f)))]) (L2 := [rfo m (tp, an, D, (fr, wv, hs), (v, RQ, RS, SC, er, mb), ck) th]) rfl rfl dL_law_1182 rfl cw_L_129 (w_L_data h00 hkd) rfl rfl (Nat.le_of_ble_eq_true rfl) ⟨by decide, by omega, by omega⟩ (fun r1 L1 h q hL => ?_)
  obtain ⟨rfl, rfl⟩ := q
  have hL : stars [flo o (tp, an, D, (fr, wv, hs), (v, RQ, RS, SC, er, mb), ck) (h1, h2, N1, N2), pt a3 (.inl (1, 1, .inr (.inl (vp_updL f 0 (nI ((hdS (tp, an, D, (fr, wv, hs), (v, RQ, RS, SC, er, mb), ck)).1.getD kd 0)).toInt64)))), rfo m (tp, an, D, (fr, wv, hs), (v, RQ, RS, SC, er, mb), ck) th] h := hL
  have hL : stars [flo o (tp, an, D, (fr, wv, hs), (v, RQ, RS, SC, er, mb), ck) (h1, h2, N1, N2), rfo m (tp, an, D, (fr, wv, hs), (v, RQ, RS, SC, er, mb), ck) th, pt a3 (.inl (1, 1, .inr (.inl (vp_updL f 0 (nI ((hdS (tp, an, D, (fr, wv, hs), (v, RQ, RS, SC, er, mb), ck)).1.getD kd 0)).toInt64))))] h := stars_ixn hL 3 rfl [0, 2, 1] (by decide) rfl
  refine s_istore 1187 (ls' := [some (.ref z.1), some (.ref o), some (.ref m), some (.ref a3), some (.int (nI (6 * k))), some (.int (nI 0)), none]) dL_law_1185 rfl (by decide) rfl ?_
  refine s_aload_n 1188 dL_law_1187 rfl rfl ?_
  refine s_aload_n 1189 dL_law_1188 rfl rfl ?_
  refine s_iload 1191 dL_law_1189 rfl rfl ?_
  refine s_iconst 1192 (v := (nI 1)) dL_law_1191 rfl (by decide) ?_
  refine s_iadd 1193 (v := (nI ((6 * k) + 1))) dL_law_1192 rfl (nI_add (6 * k) 1) ?_
  refine l_sldE 1194 (v := (nI kd)) dL_law_1193 rfl (show ((6 * k) + 1) < z.2.1 by omega) hL3 hx9 ?_
  refine sp_callV 1197 hL [1, 0, 2] 3 rfl (by decide) (L1 := [rfo m (tp, an, D, (fr, wv, hs), (v, RQ, RS, SC, er, mb), ck) th]) (L2 := [flo o (tp, an, D, (fr, wv, hs), (v, RQ, RS, SC, er, mb), ck) (h1, h2, N1, N2), pt a3 (.inl (1, 1, .inr (.inl (vp_updL f 0 (nI ((hdS (tp, an, D, (fr, wv, hs), (v, RQ, RS, SC, er, mb), ck)).1.getD kd 0)).toInt64))))]) rfl rfo_O 1 rfl dL_law_1194 rfl cv_L_131 (k_X15_data h00 hkd hl3) rfl rfl (Nat.le_of_ble_eq_true rfl) ⟨by decide, by omega, by omega⟩ (fun r1 L1 h q hL => ?_)
  obtain ⟨rfl, rfl⟩ := q
  have hL : stars [rfo m (tp, an, D, (fr, wv, hs), (v, RQ, RS, SC, er, mb), ck) 0, flo o (tp, an, D, (fr, wv, hs), (v, RQ, RS, SC, er, mb), ck) (h1, h2, N1, N2), pt a3 (.inl (1, 1, .inr (.inl (vp_updL f 0 (nI ((hdS (tp, an, D, (fr, wv, hs), (v, RQ, RS, SC, er, mb), ck)).1.getD kd 0)).toInt64))))] h := hL
  have hL : stars [flo o (tp, an, D, (fr, wv, hs), (v, RQ, RS, SC, er, mb), ck) (h1, h2, N1, N2), rfo m (tp, an, D, (fr, wv, hs), (v, RQ, RS, SC, er, mb), ck) 0, pt a3 (.inl (1, 1, .inr (.inl (vp_updL f 0 (nI ((hdS (tp, an, D, (fr, wv, hs), (v, RQ, RS, SC, er, mb), ck)).1.getD kd 0)).toInt64))))] h := stars_ixn hL 3 rfl [1, 0, 2] (by decide) rfl
  refine s_istore 1199 (ls' := [some (.ref z.1), some (.ref o), some (.ref m), some (.ref a3), some (.int (nI (6 * k))), some (.int (nI 0)), some (.int (nI ((RS.headD ([], 0, 0, 0, 0, 0)).1.getD kd 0)))]) dL_law_1197 rfl (by decide) rfl ?_
  refine s_aload_n 1200 dL_law_1199 rfl rfl ?_
  refine sp_callV 1203 hL [1, 0, 2] 3 rfl (by decide) (L1 := [rfo m (tp, an, D, (fr, wv, hs), (v, RQ, RS, SC, er, mb), ck) 0]) (L2 := [flo o (tp, an, D, (fr, wv, hs), (v, RQ, RS, SC, er, mb), ck) (h1, h2, N1, N2), pt a3 (.inl (1, 1, .inr (.inl (vp_updL f 0 (nI ((hdS (tp, an, D, (fr, wv, hs), (v, RQ, RS, SC, er, mb), ck)).1.getD kd 0)).toInt64))))]) rfl rfo_O 1 rfl dL_law_1200 rfl cv_L_122 k_X15_thrown rfl rfl (Nat.le_of_ble_eq_true rfl) ⟨by decide, by omega, by omega⟩ (fun r1 L1 h q hL => ?_)
  obtain ⟨rfl, rfl⟩ := q
  have hL : stars [rfo m (tp, an, D, (fr, wv, hs), (v, RQ, RS, SC, er, mb), ck) 0, flo o (tp, an, D, (fr, wv, hs), (v, RQ, RS, SC, er, mb), ck) (h1, h2, N1, N2), pt a3 (.inl (1, 1, .inr (.inl (vp_updL f 0 (nI ((hdS (tp, an, D, (fr, wv, hs), (v, RQ, RS, SC, er, mb), ck)).1.getD kd 0)).toInt64))))] h := hL
  have hL : stars [flo o (tp, an, D, (fr, wv, hs), (v, RQ, RS, SC, er, mb), ck) (h1, h2, N1, N2), rfo m (tp, an, D, (fr, wv, hs), (v, RQ, RS, SC, er, mb), ck) 0, pt a3 (.inl (1, 1, .inr (.inl (vp_updL f 0 (nI ((hdS (tp, an, D, (fr, wv, hs), (v, RQ, RS, SC, er, mb), ck)).1.getD kd 0)).toInt64))))] h := stars_ixn hL 3 rfl [1, 0, 2] (by decide) rfl
  refine s_iload 1205 dL_law_1203 rfl rfl ?_
  refine s_icmp_eq 1210 1208 dL_law_1205 rfl rfl (fun c1 => ?_) (fun c1 => absurd c1 (fun z9 => z9 rfl))
  refine s_iload 1212 dL_law_1210 rfl rfl ?_
  refine s_if_ne 1227 1215 dL_law_1212 rfl rfl (fun c2 => absurd rfl c2) (fun c2 => ?_)
  refine s_aload_n 1216 dL_law_1215 rfl rfl ?_
  refine s_iconst 1217 (v := nI 0) dL_law_1216 rfl (by decide) ?_
  refine s_lald 1218 (v := (nI ((hdS (tp, an, D, (fr, wv, hs), (v, RQ, RS, SC, er, mb), ck)).1.getD kd 0)).toInt64) dL_law_1217 rfl (stars_at _ 2 hL rfl) (vp_in_nI (by decide) (by decide)) rfl ?_
  refine s_iload 1220 dL_law_1218 rfl rfl ?_
  refine s_i2l 1221 (v := (nI ((RS.headD ([], 0, 0, 0, 0, 0)).1.getD kd 0)).toInt64) dL_law_1220 rfl rfl ?_
  refine s_lcmp 1222 (v := 0) dL_law_1221 rfl (lg_self _) ?_
  refine s_if_eq 1227 1225 dL_law_1222 rfl rfl (fun c3 => ?_) (fun c3 => absurd rfl c3)
  refine s_goto 1367 dL_law_1227 rfl ?_
  refine s_wk [some (.ref z.1), some (.ref o), some (.ref m), some (.ref a3), some (.int (nI (6 * k))), none, none] ?_ ?_
  · exact ⟨rfl, rfl, rfl, rfl, rfl, trivial⟩
  exact kk _ _ t _ _ _ _ h hv hx (by omega) (by omega) (by omega) (by omega) hL
