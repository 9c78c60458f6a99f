/-! the reference: serve -/
theorem okD_zc {s : DS} {ct : Nat → Nat} (h : okD s) (hc : ∀ i, ct i < 65536) : okD (zcD s ct) := ⟨h.1, h.2.1, hc, h.2.2.2⟩
theorem cUp_l9 {ct : Nat → Nat} {k : Nat} (h : ∀ i, ct i < 65536) : ∀ i, cUp ct k i < 65536 := fun i => by
  unfold cUp upN
  split
  · exact Nat.mod_lt _ (by decide)
  · exact h i
theorem svT_l9 {s : DS} {q : List Nat} (h : ∀ i, dC s i < 65536) : ∀ i, svT s q i < 65536 := by
  unfold svT
  split
  · exact h
  · exact cUp_l9 h
theorem sv_91 {s : DS} {q : List Nat} (hb : s.1 18 = 0) (hc : rfA s q = 0) : svS s q = sv9S (zcD s (svT s q)) q ∧ svA s q = sv9A (zcD s (svT s q)) q := by
  have e : svC s q = 0 := by rw [svC, if_neg (by omega)]; exact hc
  refine ⟨?_, ?_⟩
  · unfold svS sv9S
    rw [if_neg (by omega), if_neg (by rw [e]; decide)]
    rfl
  · unfold svA sv9A
    rw [if_neg (by rw [e]; decide)]
    rfl
theorem rf_0 {s : DS} {q : List Nat} (h : rfA s q = 0) : shF q = 0 ∧ fhF (dF s) (dL s) (dM s) (s.1 8) (dS s) q = 0 := by
  unfold rfA at h
  by_cases z : shF q = 0
  · rw [if_neg (fun y => y z)] at h; exact ⟨z, h⟩
  · rw [if_pos z] at h; exact absurd h z
theorem rfA_le {s : DS} {q : List Nat} : rfA s q ≤ 3 := by
  unfold rfA
  exact ite3 (shF_le q) fhF_le
set_option maxRecDepth 20000 in
set_option maxHeartbeats 2000000 in
theorem k_X15_serve {m d a qn : Nat} {F w : Nat → Nat} {bg : Bool} {s : DS} {q : List Nat} (he : okE s) (hok : okD s) (hqn : qn < 100000) (hq : ∀ x ∈ q, x < 256) (h1 : 1 ≤ q.length) (hl9 : q.length ≤ 253) {r : List Nat} : CA mX15_serve [.ref m, .ref d, .ref a, .int (nI q.length)] [ansP m F w bg r, rdv d s, iar a qn q] (fun x9 K => x9 = none ∧ K = [ansP m F w bg (svA s q), rdv d (svS s q), iar a qn q]) 4 95 0 0 := by
  refine CA.mk 3 (ls := [some (.ref m), some (.ref d), some (.ref a), some (.int (nI q.length)), none, none, none]) rfl rfl (Nat.le_of_ble_eq_true rfl) rfl (fun h hL => ?_)
  have hqle := (iar_V _ 2 hL rfl).le
  have hb18 : s.1 18 < 100 := hok.2.2.2.2.2.2.1
  have hL := ans_o hL
  have hL : stars [pt m (.inr (13, moF F (upN w 4 r.length) bg)), iar (F 3) 300 r, rdv d s, iar a qn q] h := hL
  refine e_aload_n 1 dX15_serve_0 rfl rfl ?_
  refine e_iconst 2 (v := (nI 0)) dX15_serve_1 rfl (by decide) ?_
  refine p_put 5 hL 0 (fs' := moF F (upN (upN w 4 r.length) 4 0) bg) (L' := [pt m (.inr (13, moF F (upN (upN w 4 r.length) 4 0) bg)), iar (F 3) 300 r, rdv d s, iar a qn q]) rfl rfl dX15_serve_2 rfl fp_X15_89_13 (Or.inl rfl) (Nat.le_of_ble_eq_true rfl) rfl rfl rfl (fun h hL => ?_)
  have hL : stars [rmo m F (upN w 4 0) bg, iar (F 3) 300 [], rdv d s, iar a qn q] h := iar_em 1 hL rfl rfl
  have hL : stars [ansP m F w bg [], rdv d s, iar a qn q] h := ans_c hL
  refine e_iconst 6 (v := (nI 0)) dX15_serve_5 rfl (by decide) ?_
  refine e_istore 8 (ls' := [some (.ref m), some (.ref d), some (.ref a), some (.int (nI q.length)), some (.int (nI 0)), none, none]) dX15_serve_6 rfl (by decide) rfl ?_
  refine e_aload_n 9 dX15_serve_8 rfl rfl ?_
  obtain ⟨A9, v9_0, v9_1, v9_2, v9_3, v9_4, v9_5, v9_6, v9_7, v9_8, v9_9, v9_10, v9_11, v9_12, v9_13, v9_14, v9_15, v9_16, v9_17, v9_18, v9_19, v9_20, v9_21⟩ := rdv_V _ 1 hL rfl
  refine e_get 12 dX15_serve_9 rfl fl_X15_147_10 v9_0 rfl ?_
  refine e_if_le 38 15 dX15_serve_12 rfl rfl (fun c12 => ?_) (fun c12 => ?_)
  · have k12 := j_le0_t (a := (s.1 18)) (by omega) c12
    refine e_aload_n 39 dX15_serve_38 rfl rfl ?_
    refine e_aload_n 40 dX15_serve_39 rfl rfl ?_
    refine e_iload_n 41 dX15_serve_40 rfl rfl ?_
    refine u_callS 44 dX15_serve_41 rfl cs_X15_153 (u_X15_refusal (rdv_V _ 1 hL rfl) he hok (iar_V _ 2 hL rfl) hqn hq h1 hl9) rfl rfl (Nat.le_of_ble_eq_true rfl) (by decide) ⟨by omega, by omega⟩ ?_
    have hr3 := rfA_le (s := s) (q := q)
    refine e_istore 46 (ls' := [some (.ref m), some (.ref d), some (.ref a), some (.int (nI q.length)), some (.int (nI (rfA s q))), none, none]) dX15_serve_44 rfl (by decide) rfl ?_
    refine e_iload 48 dX15_serve_46 rfl rfl ?_
    refine e_if_le 69 51 dX15_serve_48 rfl rfl (fun c48 => ?_) (fun c48 => ?_)
    · have k48 := j_le0_t (a := (rfA s q)) (by omega) c48
      refine e_aload_n 70 dX15_serve_69 rfl rfl ?_
      refine e_iconst 71 (v := (nI 0)) dX15_serve_70 rfl (by decide) ?_
      have b71 := gd_lt (i := 0) hq (by decide)
      refine v_iald 72 (iar_V _ 2 hL rfl) (k := 0) (x := (q.getD 0 0)) dX15_serve_71 rfl (by omega) (by omega) rfl ?_
      refine e_bipush 74 (v := (nI 11)) dX15_serve_72 rfl (by decide) ?_
      refine e_icmp_eq 91 77 dX15_serve_74 rfl rfl (fun c74 => ?_) (fun c74 => ?_)
      · have k74 := j_eq_t (a := (q.getD 0 0)) (b := 11) (by omega) (by omega) c74
        have r0 := rf_0 (s := s) (q := q) (by omega)
        have eT : svT s q = dC s := by rw [svT, if_pos (by omega)]
        have s91 := sv_91 (s := s) (q := q) (by omega) (by omega)
        rw [s91.1, s91.2]
        refine e_wk [some (.ref m), some (.ref d), some (.ref a), some (.int (nI q.length)), none, none, none] ⟨rfl, rfl, rfl, rfl, trivial⟩ ?_
        have hL : stars [ansP m F w bg [], rdv d (zcD s (svT s q)), iar a qn q] h := by rw [eT]; exact hL
        exact g_serve91 (s := zcD s (svT s q)) he (okD_zc hok (svT_l9 (okD_C hok))) hqn hq h1 hl9 r0.1 r0.2 hL
      · have k74 := j_eq_f (a := (q.getD 0 0)) (b := 11) (by omega) (by omega) c74
        refine e_aload_n 78 dX15_serve_77 rfl rfl ?_
        refine e_iconst 79 (v := (nI 0)) dX15_serve_78 rfl (by decide) ?_
        have b79 := gd_lt (i := 0) hq (by decide)
        refine v_iald 80 (iar_V _ 2 hL rfl) (k := 0) (x := (q.getD 0 0)) dX15_serve_79 rfl (by omega) (by omega) rfl ?_
        refine e_bipush 82 (v := (nI 12)) dX15_serve_80 rfl (by decide) ?_
        refine e_icmp_eq 91 85 dX15_serve_82 rfl rfl (fun c82 => ?_) (fun c82 => ?_)
        · have k82 := j_eq_t (a := (q.getD 0 0)) (b := 12) (by omega) (by omega) c82
          have r0 := rf_0 (s := s) (q := q) (by omega)
          have eT : svT s q = dC s := by rw [svT, if_pos (by omega)]
          have s91 := sv_91 (s := s) (q := q) (by omega) (by omega)
          rw [s91.1, s91.2]
          refine e_wk [some (.ref m), some (.ref d), some (.ref a), some (.int (nI q.length)), none, none, none] ⟨rfl, rfl, rfl, rfl, trivial⟩ ?_
          have hL : stars [ansP m F w bg [], rdv d (zcD s (svT s q)), iar a qn q] h := by rw [eT]; exact hL
          exact g_serve91 (s := zcD s (svT s q)) he (okD_zc hok (svT_l9 (okD_C hok))) hqn hq h1 hl9 r0.1 r0.2 hL
        · have k82 := j_eq_f (a := (q.getD 0 0)) (b := 12) (by omega) (by omega) c82
          refine e_aload_n 86 dX15_serve_85 rfl rfl ?_
          refine e_bipush 88 (v := (nI 8)) dX15_serve_86 rfl (by decide) ?_
          refine p_callV 91 hL [1, 0, 2] 3 rfl (by decide) (L1 := [rdv d s]) (L2 := [ansP m F w bg ([]), iar a qn q]) rfl rdv_O 1 rfl dX15_serve_88 rfl cv_X15_150 (k_X12_counts (s := s) (k := 8) (by decide) (okD_C hok 8)) rfl rfl (Nat.le_of_ble_eq_true rfl) ⟨by decide, by omega, by omega⟩ (fun r1 L1 h q hL => ?_)
          obtain ⟨rfl, rfl⟩ := q
          have hL : stars [rdv d (ctD s 8), ansP m F w bg ([]), iar a qn q] h := hL
          have hL : stars [ansP m F w bg ([]), rdv d (ctD s 8), iar a qn q] h := stars_ixn hL 3 rfl [1, 0, 2] (by decide) rfl
          have r0 := rf_0 (s := s) (q := q) (by omega)
          have eT : svT s q = cUp (dC s) 8 := by rw [svT, if_neg (by omega)]
          have s91 := sv_91 (s := s) (q := q) (by omega) (by omega)
          rw [s91.1, s91.2]
          refine e_wk [some (.ref m), some (.ref d), some (.ref a), some (.int (nI q.length)), none, none, none] ⟨rfl, rfl, rfl, rfl, trivial⟩ ?_
          have hL : stars [ansP m F w bg [], rdv d (zcD s (svT s q)), iar a qn q] h := by rw [eT]; exact hL
          exact g_serve91 (s := zcD s (svT s q)) he (okD_zc hok (svT_l9 (okD_C hok))) hqn hq h1 hl9 r0.1 r0.2 hL
    · have k48 := j_le0_f (a := (rfA s q)) (by omega) c48
      refine e_aload_n 52 dX15_serve_51 rfl rfl ?_
      refine e_aload_n 53 dX15_serve_52 rfl rfl ?_
      refine e_iconst 54 (v := (nI 0)) dX15_serve_53 rfl (by decide) ?_
      have b54 := gd_lt (i := 0) hq (by decide)
      refine v_iald 55 (iar_V _ 2 hL rfl) (k := 0) (x := (q.getD 0 0)) dX15_serve_54 rfl (by omega) (by omega) rfl ?_
      refine e_sipush 58 (v := (nI 128)) dX15_serve_55 rfl (by decide) ?_
      refine e_iadd 59 (v := (nI ((q.getD 0 0) + 128))) dX15_serve_58 rfl (nI_add (q.getD 0 0) 128) ?_
      refine p_callV 62 hL [0, 1, 2] 3 rfl (by decide) (L1 := [ansP m F w bg ([])]) (L2 := [rdv d s, iar a qn q]) rfl ans_O 0 rfl dX15_serve_59 rfl cv_X15_92 (k_X15_says (by first | omega | (simp only [List.length_append, List.length_cons, List.length_nil, w2_len, List.length_take, rbR_len, rwR_len, List.length_reverse, tvR_len] <;> omega)) (by omega)) rfl rfl (Nat.le_of_ble_eq_true rfl) ⟨by decide, by omega, by omega⟩ (fun r1 L1 h q hL => ?_)
      obtain ⟨rfl, rfl⟩ := q
      have hL : stars [ansP m F w bg ([] ++ [((q.getD 0 0) + 128) % 2 ^ 8]), rdv d s, iar a qn q] h := hL
      refine e_aload_n 63 dX15_serve_62 rfl rfl ?_
      refine e_iload 65 dX15_serve_63 rfl rfl ?_
      refine p_callV 68 hL [0, 1, 2] 3 rfl (by decide) (L1 := [ansP m F w bg ([] ++ [((q.getD 0 0) + 128) % 2 ^ 8])]) (L2 := [rdv d s, iar a qn q]) rfl ans_O 0 rfl dX15_serve_65 rfl cv_X15_92 (k_saysB (by first | omega | (simp only [List.length_append, List.length_cons, List.length_nil, w2_len, List.length_take, rbR_len, rwR_len, List.length_reverse, tvR_len] <;> omega)) (by omega)) rfl rfl (Nat.le_of_ble_eq_true rfl) ⟨by decide, by omega, by omega⟩ (fun r1 L1 h q hL => ?_)
      obtain ⟨rfl, rfl⟩ := q
      have hL : stars [ansP m F w bg (([] ++ [((q.getD 0 0) + 128) % 2 ^ 8]) ++ [(rfA s q)]), rdv d s, iar a qn q] h := hL
      exact e_vret dX15_serve_68 rfl (by omega) (by omega) (⟨_, ⟨rfl, rfl⟩, by rw [show svA s q = [(q.getD 0 0 + 128) % 2 ^ 8, rfA s q] by (rw [svA, show svC s q = rfA s q by (rw [svC, if_neg (by omega)]; rfl), if_pos (by omega)]), show svS s q = s by (rw [svS, if_neg (by omega), show svC s q = rfA s q by (rw [svC, if_neg (by omega)]; rfl), if_pos (by omega)])]; exact hL⟩)
  · have k12 := j_le0_f (a := (s.1 18)) (by omega) c12
    have hL : stars [rdv d s, ansP m F w bg ([]), iar a qn q] h := stars_ixn hL 3 rfl [1, 0, 2] (by decide) rfl
    obtain ⟨A, hL⟩ := rdv_on hL
    have hL : stars [pt d (.inr (10, rdF A s)), rRn A s, ansP m F w bg ([]), iar a qn q] h := hL
    refine e_aload_n 16 dX15_serve_15 rfl rfl ?_
    refine e_dup 17 dX15_serve_16 rfl rfl ?_
    refine e_get 20 dX15_serve_17 rfl fl_X15_147_10 (stars_at _ 0 hL rfl) rfl ?_
    refine e_iconst 21 (v := (nI 1)) dX15_serve_20 rfl (by decide) ?_
    refine e_isub 22 (v := (nI (s.1 18 - 1))) dX15_serve_21 rfl (pk_sub (by omega)) ?_
    refine p_put 25 hL 0 (fs' := (rdF A s).set 34 (.int (nI (s.1 18 - 1)))) (L' := [pt d (.inr (10, (rdF A s).set 34 (.int (nI (s.1 18 - 1))))), rRn A s, ansP m F w bg ([]), iar a qn q]) rfl rfl dX15_serve_22 rfl fp_X15_147_10 (Or.inl rfl) (Nat.le_of_ble_eq_true rfl) rfl rfl rfl (fun h hL => ?_)
    have hL : stars [rdv d (upN s.1 18 (s.1 18 - 1), s.2), ansP m F w bg ([]), iar a qn q] h := rdv_cn (s := s) (A := A) (fs' := (rdF A s).set 34 (.int (nI (s.1 18 - 1)))) (v := upN s.1 18 (s.1 18 - 1)) (B := dB s) rfl rfl hL
    have hL : stars [ansP m F w bg ([]), rdv d (upN s.1 18 (s.1 18 - 1), s.2), iar a qn q] h := stars_ixn hL 3 rfl [1, 0, 2] (by decide) rfl
    refine e_aload_n 26 dX15_serve_25 rfl rfl ?_
    refine e_bipush 28 (v := (nI 6)) dX15_serve_26 rfl (by decide) ?_
    refine p_callV 31 hL [1, 0, 2] 3 rfl (by decide) (L1 := [rdv d (upN s.1 18 (s.1 18 - 1), s.2)]) (L2 := [ansP m F w bg ([]), iar a qn q]) rfl rdv_O 1 rfl dX15_serve_28 rfl cv_X15_150 (k_X12_counts (s := (upN s.1 18 (s.1 18 - 1), s.2)) (k := 6) (by decide) (okD_C hok 6)) rfl rfl (Nat.le_of_ble_eq_true rfl) ⟨by decide, by omega, by omega⟩ (fun r1 L1 h q hL => ?_)
    obtain ⟨rfl, rfl⟩ := q
    have hL : stars [rdv d (ctD (upN s.1 18 (s.1 18 - 1), s.2) 6), ansP m F w bg ([]), iar a qn q] h := hL
    have hL : stars [ansP m F w bg ([]), rdv d (ctD (upN s.1 18 (s.1 18 - 1), s.2) 6), iar a qn q] h := stars_ixn hL 3 rfl [1, 0, 2] (by decide) rfl
    refine e_bipush 33 (v := (nI 6)) dX15_serve_31 rfl (by decide) ?_
    refine e_istore 35 (ls' := [some (.ref m), some (.ref d), some (.ref a), some (.int (nI q.length)), some (.int (nI 6)), none, none]) dX15_serve_33 rfl (by decide) rfl ?_
    refine e_goto 46 dX15_serve_35 rfl ?_
    refine e_iload 48 dX15_serve_46 rfl rfl ?_
    refine e_if_le 69 51 dX15_serve_48 rfl rfl (fun c48 => absurd c48 (fun z => absurd (j_le0_t (by omega) z) (by omega))) (fun c48 => ?_)
    refine e_aload_n 52 dX15_serve_51 rfl rfl ?_
    refine e_aload_n 53 dX15_serve_52 rfl rfl ?_
    refine e_iconst 54 (v := (nI 0)) dX15_serve_53 rfl (by decide) ?_
    have b54 := gd_lt (i := 0) hq (by decide)
    refine v_iald 55 (iar_V _ 2 hL rfl) (k := 0) (x := (q.getD 0 0)) dX15_serve_54 rfl (by omega) (by omega) rfl ?_
    refine e_sipush 58 (v := (nI 128)) dX15_serve_55 rfl (by decide) ?_
    refine e_iadd 59 (v := (nI ((q.getD 0 0) + 128))) dX15_serve_58 rfl (nI_add (q.getD 0 0) 128) ?_
    refine p_callV 62 hL [0, 1, 2] 3 rfl (by decide) (L1 := [ansP m F w bg ([])]) (L2 := [rdv d (ctD (upN s.1 18 (s.1 18 - 1), s.2) 6), iar a qn q]) rfl ans_O 0 rfl dX15_serve_59 rfl cv_X15_92 (k_X15_says (by first | omega | (simp only [List.length_append, List.length_cons, List.length_nil, w2_len, List.length_take, rbR_len, rwR_len, List.length_reverse, tvR_len] <;> omega)) (by omega)) rfl rfl (Nat.le_of_ble_eq_true rfl) ⟨by decide, by omega, by omega⟩ (fun r1 L1 h q hL => ?_)
    obtain ⟨rfl, rfl⟩ := q
    have hL : stars [ansP m F w bg ([] ++ [((q.getD 0 0) + 128) % 2 ^ 8]), rdv d (ctD (upN s.1 18 (s.1 18 - 1), s.2) 6), iar a qn q] h := hL
    refine e_aload_n 63 dX15_serve_62 rfl rfl ?_
    refine e_iload 65 dX15_serve_63 rfl rfl ?_
    refine p_callV 68 hL [0, 1, 2] 3 rfl (by decide) (L1 := [ansP m F w bg ([] ++ [((q.getD 0 0) + 128) % 2 ^ 8])]) (L2 := [rdv d (ctD (upN s.1 18 (s.1 18 - 1), s.2) 6), iar a qn q]) rfl ans_O 0 rfl dX15_serve_65 rfl cv_X15_92 (k_saysB (by first | omega | (simp only [List.length_append, List.length_cons, List.length_nil, w2_len, List.length_take, rbR_len, rwR_len, List.length_reverse, tvR_len] <;> omega)) (by omega)) rfl rfl (Nat.le_of_ble_eq_true rfl) ⟨by decide, by omega, by omega⟩ (fun r1 L1 h q hL => ?_)
    obtain ⟨rfl, rfl⟩ := q
    have hL : stars [ansP m F w bg (([] ++ [((q.getD 0 0) + 128) % 2 ^ 8]) ++ [6]), rdv d (ctD (upN s.1 18 (s.1 18 - 1), s.2) 6), iar a qn q] h := hL
    exact e_vret dX15_serve_68 rfl (by omega) (by omega) (⟨_, ⟨rfl, rfl⟩, by rw [show svA s q = [(q.getD 0 0 + 128) % 2 ^ 8, 6] by (rw [svA, show svC s q = 6 by (rw [svC, if_pos (by omega)])]; rfl), svS, if_pos (by omega)]; exact hL⟩)
