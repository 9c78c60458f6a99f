/-! the reference: looks -/
theorem good_4 {r : List Nat} {sp : Bool} (h : goodF r sp = true) : 4 ≤ r.length := by
  unfold goodF at h
  simp only [Bool.and_eq_true, decide_eq_true_eq] at h
  exact h.2.1
set_option maxRecDepth 20000 in
set_option maxHeartbeats 2000000 in
theorem k_X15_looks {m d : Nat} {F w : Nat → Nat} {bg : Bool} {s : DS} (he : okE s) (hok : okD s) {r pd : List Nat} : CA mX15_looks [.ref m, .ref d] [ansP m F w bg r, rdv d s, iar (F 5) 260 pd] (fun x9 K => x9 = none ∧ ∃ r9 p9, K = [ansP m F w bg r9, rdv d (lkD s), iar (F 5) 260 p9]) 5 130 0 0 := by
  refine CA.mk 5 (ls := [some (.ref m), some (.ref d), none, none, none, none, none]) rfl rfl (Nat.le_of_ble_eq_true rfl) rfl (fun h hL => ?_)
  have h6l := (okE_ln he).2.2.1
  have ha9 : s.1 1 < 248 := hok.2.2.2.2.2.2.2.2.2.2.2.2.2.1
  refine e_aload_n 1 dX15_looks_0 rfl rfl ?_
  obtain ⟨A1, o1, e1, -⟩ := rdv_V _ 1 hL rfl
  refine u_callU 4 dX15_looks_1 rfl cu_X15_238 o1 (u_X14_isGoodD o1 e1 (fun x hx => Nat.lt_trans (okD_6 hok x hx) (by decide))) rfl rfl (Nat.le_of_ble_eq_true rfl) (by decide) ⟨by omega, by omega⟩ ?_
  refine e_if_ne 61 7 dX15_looks_4 rfl rfl (fun c4 => ?_) (fun c4 => ?_)
  · have k4 := jb_ne_t c4
    have h4 := good_4 k4
    refine e_aload_n 62 dX15_looks_61 rfl rfl ?_
    refine e_iconst 63 (v := (nI 0)) dX15_looks_62 rfl (by decide) ?_
    refine p_callV 66 hL [1, 0, 2] 3 rfl (by decide) (L1 := [rdv d s]) (L2 := [ansP m F w bg r, iar (F 5) 260 pd]) rfl rdv_O 1 rfl dX15_looks_63 rfl cv_X15_150 (k_X12_counts (s := s) (k := 0) (by decide) (okD_C hok 0)) rfl rfl (Nat.le_of_ble_eq_true rfl) ⟨by decide, by omega, by omega⟩ (fun r1 L1 h q hL => ?_)
    obtain ⟨rfl, rfl⟩ := q
    have hL : stars [rdv d (ctD s 0), ansP m F w bg r, iar (F 5) 260 pd] h := hL
    have hL : stars [ansP m F w bg r, rdv d (ctD s 0), iar (F 5) 260 pd] h := stars_ixn hL 3 rfl [1, 0, 2] (by decide) rfl
    refine e_aload_n 67 dX15_looks_66 rfl rfl ?_
    obtain ⟨A67, v67_0, v67_1, v67_2, v67_3, v67_4, v67_5, v67_6, v67_7, v67_8, v67_9, v67_10, v67_11, v67_12, v67_13, v67_14, v67_15, v67_16, v67_17, v67_18, v67_19, v67_20, v67_21⟩ := rdv_V _ 1 hL rfl
    refine e_get 70 (v := (.ref (A67 0))) dX15_looks_67 rfl fl_X15_245_10 v67_0 rfl ?_
    refine e_iconst 71 (v := (nI 0)) dX15_looks_70 rfl (by decide) ?_
    have b71 := gd_lt (i := 0) (okD_6 hok) (by decide)
    refine v_iald 72 (r := (dL s 6)) v67_1 (k := 0) (x := ((dL s 6).getD 0 0)) dX15_looks_71 rfl (by omega) (by omega) rfl ?_
    refine e_istore_n 73 (ls' := [some (.ref m), some (.ref d), some (.int (nI ((dL s 6).getD 0 0))), none, none, none, none]) dX15_looks_72 rfl (by decide) rfl ?_
    refine e_iload_n 74 dX15_looks_73 rfl rfl ?_
    refine e_aload_n 75 dX15_looks_74 rfl rfl ?_
    refine e_get 78 (v := (.int (nI (s.1 1)))) dX15_looks_75 rfl fl_X15_248_10 v67_0 rfl ?_
    refine e_icmp_eq 86 81 dX15_looks_78 rfl rfl (fun c78 => ?_) (fun c78 => ?_)
    · have k78 := j_eq_t (a := ((dL s 6).getD 0 0)) (b := (s.1 1)) (by omega) (by omega) c78
      refine e_aload_n 87 dX15_looks_86 rfl rfl ?_
      refine e_iconst 88 (v := (nI 3)) dX15_looks_87 rfl (by decide) ?_
      refine p_callV 91 hL [1, 0, 2] 3 rfl (by decide) (L1 := [rdv d (ctD s 0)]) (L2 := [ansP m F w bg r, iar (F 5) 260 pd]) rfl rdv_O 1 rfl dX15_looks_88 rfl cv_X15_150 (k_X12_counts (s := (ctD s 0)) (k := 3) (by decide) (cUp_l9 (k := 0) (okD_C hok) 3)) rfl rfl (Nat.le_of_ble_eq_true rfl) ⟨by decide, by omega, by omega⟩ (fun r1 L1 h q hL => ?_)
      obtain ⟨rfl, rfl⟩ := q
      have hL : stars [rdv d (ctD (ctD s 0) 3), ansP m F w bg r, iar (F 5) 260 pd] h := hL
      have hL : stars [ansP m F w bg r, rdv d (ctD (ctD s 0) 3), iar (F 5) 260 pd] h := stars_ixn hL 3 rfl [1, 0, 2] (by decide) rfl
      refine e_aload_n 92 dX15_looks_91 rfl rfl ?_
      refine e_sipush 95 (v := (nI 128)) dX15_looks_92 rfl (by decide) ?_
      refine e_aload_n 96 dX15_looks_95 rfl rfl ?_
      obtain ⟨A96, v96_0, v96_1, v96_2, v96_3, v96_4, v96_5, v96_6, v96_7, v96_8, v96_9, v96_10, v96_11, v96_12, v96_13, v96_14, v96_15, v96_16, v96_17, v96_18, v96_19, v96_20, v96_21⟩ := rdv_V _ 1 hL rfl
      refine e_get 99 (v := (.int (bI (dB s 0)))) dX15_looks_96 rfl fl_X15_211_10 v96_0 rfl ?_
      refine e_if_eq 107 102 dX15_looks_99 rfl rfl (fun c99 => ?_) (fun c99 => ?_)
      · have k99 := jb_eq_t c99
        refine e_iconst 108 (v := (nI 0)) dX15_looks_107 rfl (by decide) ?_
        refine e_iadd 109 (v := (nI (128 + 0))) dX15_looks_108 rfl (nI_add 128 0) ?_
        refine e_iload_n 110 dX15_looks_109 rfl rfl ?_
        refine e_if_ne 118 113 dX15_looks_110 rfl rfl (fun c110 => ?_) (fun c110 => ?_)
        · have k110 := j_ne0_t (a := ((dL s 6).getD 0 0)) (by omega) c110
          refine e_iconst 119 (v := (nI 0)) dX15_looks_118 rfl (by decide) ?_
          refine e_iadd 120 (v := (nI ((128 + 0) + 0))) dX15_looks_119 rfl (nI_add (128 + 0) 0) ?_
          refine e_top (v' := (nI (128 + cfM (dB s 0) + if (dL s 6).getD 0 0 = 0 then 64 else 0))) (congrArg nI (show ((128 + 0) + 0) = (128 + cfM (dB s 0) + if (dL s 6).getD 0 0 = 0 then 64 else 0) by rw [show dB s 0 = false from k99, if_neg (show ¬ (dL s 6).getD 0 0 = 0 by omega)]; decide)) ?_
          refine p_callV 123 hL [1, 0, 2] 3 rfl (by decide) (L1 := [rdv d (ctD (ctD s 0) 3)]) (L2 := [ansP m F w bg r, iar (F 5) 260 pd]) rfl rdv_O 1 rfl dX15_looks_120 rfl cv_X15_215 (k_X12_tells (s := (ctD (ctD s 0) 3)) (e := (128 + cfM (dB s 0) + if (dL s 6).getD 0 0 = 0 then 64 else 0)) (by exact (okE_ln he).2.1)) rfl rfl (Nat.le_of_ble_eq_true rfl) ⟨by decide, by omega, by omega⟩ (fun r1 L1 h q hL => ?_)
          obtain ⟨rfl, rfl⟩ := q
          have hL : stars [rdv d (evD (ctD (ctD s 0) 3) (128 + cfM (dB s 0) + if (dL s 6).getD 0 0 = 0 then 64 else 0)), ansP m F w bg r, iar (F 5) 260 pd] h := hL
          have hL : stars [ansP m F w bg r, rdv d (evD (ctD (ctD s 0) 3) (128 + cfM (dB s 0) + if (dL s 6).getD 0 0 = 0 then 64 else 0)), iar (F 5) 260 pd] h := stars_ixn hL 3 rfl [1, 0, 2] (by decide) rfl
          refine e_aload_n 124 dX15_looks_123 rfl rfl ?_
          obtain ⟨A124, v124_0, v124_1, v124_2, v124_3, v124_4, v124_5, v124_6, v124_7, v124_8, v124_9, v124_10, v124_11, v124_12, v124_13, v124_14, v124_15, v124_16, v124_17, v124_18, v124_19, v124_20, v124_21⟩ := rdv_V _ 1 hL rfl
          refine e_get 127 (v := (.int (nI (dL s 6).length))) dX15_looks_124 rfl fl_X15_251_10 v124_0 rfl ?_
          refine e_iconst 128 (v := (nI 3)) dX15_looks_127 rfl (by decide) ?_
          refine e_isub 129 (v := (nI ((dL s 6).length - 3))) dX15_looks_128 rfl (pk_sub (by omega)) ?_
          refine e_istore_n 130 (ls' := [some (.ref m), some (.ref d), some (.int (nI ((dL s 6).getD 0 0))), some (.int (nI ((dL s 6).length - 3))), none, none, none]) dX15_looks_129 rfl (by decide) rfl ?_
          refine e_iconst 131 (v := (nI 0)) dX15_looks_130 rfl (by decide) ?_
          refine e_istore 133 (ls' := [some (.ref m), some (.ref d), some (.int (nI ((dL s 6).getD 0 0))), some (.int (nI ((dL s 6).length - 3))), some (.int (nI 0)), none, none]) dX15_looks_131 rfl (by decide) rfl ?_
          have cy := cf_yes (s := s) k4 (by omega)
          have hL : stars [ansP m F w bg r, rdv d (evD (ctD (ctD s 0) 3) (128 + cfM (dB s 0) + if (dL s 6).getD 0 0 = 0 then 64 else 0)), iar (F 5) 260 ([])] h := iar_em 2 hL rfl rfl
          rw [← cy.2] at hL
          rw [cy.1]
          refine e_wk [some (.ref m), some (.ref d), some (.int (nI ((dL s 6).getD 0 0))), some (.int (nI ((dL s 6).length - 3))), some (.int (nI 0)), none, none] ⟨rfl, rfl, rfl, rfl, rfl, trivial⟩ ?_
          have hok9 := okD_cf hok
          have he9 := okE_cf he
          refine l_looks1 (s := cfD s) he9 hok9 (to := (dL s 6).getD 0 0) (by exact h4) (fun h hL => ?_) _ 0 h (Nat.lt_succ_self _) (Nat.zero_le _) hL
          refine e_lc (ls' := [some (.ref m), some (.ref d), some (.int (nI ((dL (cfD s) 6).getD 0 0))), some (.int (nI (eaP (cfD s)).length)), none, none, none]) (by rw [show (eaP (cfD s)).length = (dL s 6).length - 3 from pf_len]; rfl) ?_
          exact g_looks161 (s := cfD s) he9 hok9 (by exact h4) hL
        · have k110 := j_ne0_f (a := ((dL s 6).getD 0 0)) (by omega) c110
          refine e_bipush 115 (v := (nI 64)) dX15_looks_113 rfl (by decide) ?_
          refine e_goto 119 dX15_looks_115 rfl ?_
          refine e_iadd 120 (v := (nI ((128 + 0) + 64))) dX15_looks_119 rfl (nI_add (128 + 0) 64) ?_
          refine e_top (v' := (nI (128 + cfM (dB s 0) + if (dL s 6).getD 0 0 = 0 then 64 else 0))) (congrArg nI (show ((128 + 0) + 64) = (128 + cfM (dB s 0) + if (dL s 6).getD 0 0 = 0 then 64 else 0) by rw [show dB s 0 = false from k99, if_pos (show (dL s 6).getD 0 0 = 0 by omega)]; decide)) ?_
          refine p_callV 123 hL [1, 0, 2] 3 rfl (by decide) (L1 := [rdv d (ctD (ctD s 0) 3)]) (L2 := [ansP m F w bg r, iar (F 5) 260 pd]) rfl rdv_O 1 rfl dX15_looks_120 rfl cv_X15_215 (k_X12_tells (s := (ctD (ctD s 0) 3)) (e := (128 + cfM (dB s 0) + if (dL s 6).getD 0 0 = 0 then 64 else 0)) (by exact (okE_ln he).2.1)) rfl rfl (Nat.le_of_ble_eq_true rfl) ⟨by decide, by omega, by omega⟩ (fun r1 L1 h q hL => ?_)
          obtain ⟨rfl, rfl⟩ := q
          have hL : stars [rdv d (evD (ctD (ctD s 0) 3) (128 + cfM (dB s 0) + if (dL s 6).getD 0 0 = 0 then 64 else 0)), ansP m F w bg r, iar (F 5) 260 pd] h := hL
          have hL : stars [ansP m F w bg r, rdv d (evD (ctD (ctD s 0) 3) (128 + cfM (dB s 0) + if (dL s 6).getD 0 0 = 0 then 64 else 0)), iar (F 5) 260 pd] h := stars_ixn hL 3 rfl [1, 0, 2] (by decide) rfl
          refine e_aload_n 124 dX15_looks_123 rfl rfl ?_
          obtain ⟨A124, v124_0, v124_1, v124_2, v124_3, v124_4, v124_5, v124_6, v124_7, v124_8, v124_9, v124_10, v124_11, v124_12, v124_13, v124_14, v124_15, v124_16, v124_17, v124_18, v124_19, v124_20, v124_21⟩ := rdv_V _ 1 hL rfl
          refine e_get 127 (v := (.int (nI (dL s 6).length))) dX15_looks_124 rfl fl_X15_251_10 v124_0 rfl ?_
          refine e_iconst 128 (v := (nI 3)) dX15_looks_127 rfl (by decide) ?_
          refine e_isub 129 (v := (nI ((dL s 6).length - 3))) dX15_looks_128 rfl (pk_sub (by omega)) ?_
          refine e_istore_n 130 (ls' := [some (.ref m), some (.ref d), some (.int (nI ((dL s 6).getD 0 0))), some (.int (nI ((dL s 6).length - 3))), none, none, none]) dX15_looks_129 rfl (by decide) rfl ?_
          refine e_iconst 131 (v := (nI 0)) dX15_looks_130 rfl (by decide) ?_
          refine e_istore 133 (ls' := [some (.ref m), some (.ref d), some (.int (nI ((dL s 6).getD 0 0))), some (.int (nI ((dL s 6).length - 3))), some (.int (nI 0)), none, none]) dX15_looks_131 rfl (by decide) rfl ?_
          have cy := cf_yes (s := s) k4 (by omega)
          have hL : stars [ansP m F w bg r, rdv d (evD (ctD (ctD s 0) 3) (128 + cfM (dB s 0) + if (dL s 6).getD 0 0 = 0 then 64 else 0)), iar (F 5) 260 ([])] h := iar_em 2 hL rfl rfl
          rw [← cy.2] at hL
          rw [cy.1]
          refine e_wk [some (.ref m), some (.ref d), some (.int (nI ((dL s 6).getD 0 0))), some (.int (nI ((dL s 6).length - 3))), some (.int (nI 0)), none, none] ⟨rfl, rfl, rfl, rfl, rfl, trivial⟩ ?_
          have hok9 := okD_cf hok
          have he9 := okE_cf he
          refine l_looks1 (s := cfD s) he9 hok9 (to := (dL s 6).getD 0 0) (by exact h4) (fun h hL => ?_) _ 0 h (Nat.lt_succ_self _) (Nat.zero_le _) hL
          refine e_lc (ls' := [some (.ref m), some (.ref d), some (.int (nI ((dL (cfD s) 6).getD 0 0))), some (.int (nI (eaP (cfD s)).length)), none, none, none]) (by rw [show (eaP (cfD s)).length = (dL s 6).length - 3 from pf_len]; rfl) ?_
          exact g_looks161 (s := cfD s) he9 hok9 (by exact h4) hL
      · have k99 := jb_eq_f c99
        refine e_bipush 104 (v := (nI 32)) dX15_looks_102 rfl (by decide) ?_
        refine e_goto 108 dX15_looks_104 rfl ?_
        refine e_iadd 109 (v := (nI (128 + 32))) dX15_looks_108 rfl (nI_add 128 32) ?_
        refine e_iload_n 110 dX15_looks_109 rfl rfl ?_
        refine e_if_ne 118 113 dX15_looks_110 rfl rfl (fun c110 => ?_) (fun c110 => ?_)
        · have k110 := j_ne0_t (a := ((dL s 6).getD 0 0)) (by omega) c110
          refine e_iconst 119 (v := (nI 0)) dX15_looks_118 rfl (by decide) ?_
          refine e_iadd 120 (v := (nI ((128 + 32) + 0))) dX15_looks_119 rfl (nI_add (128 + 32) 0) ?_
          refine e_top (v' := (nI (128 + cfM (dB s 0) + if (dL s 6).getD 0 0 = 0 then 64 else 0))) (congrArg nI (show ((128 + 32) + 0) = (128 + cfM (dB s 0) + if (dL s 6).getD 0 0 = 0 then 64 else 0) by rw [show dB s 0 = true from k99, if_neg (show ¬ (dL s 6).getD 0 0 = 0 by omega)]; decide)) ?_
          refine p_callV 123 hL [1, 0, 2] 3 rfl (by decide) (L1 := [rdv d (ctD (ctD s 0) 3)]) (L2 := [ansP m F w bg r, iar (F 5) 260 pd]) rfl rdv_O 1 rfl dX15_looks_120 rfl cv_X15_215 (k_X12_tells (s := (ctD (ctD s 0) 3)) (e := (128 + cfM (dB s 0) + if (dL s 6).getD 0 0 = 0 then 64 else 0)) (by exact (okE_ln he).2.1)) rfl rfl (Nat.le_of_ble_eq_true rfl) ⟨by decide, by omega, by omega⟩ (fun r1 L1 h q hL => ?_)
          obtain ⟨rfl, rfl⟩ := q
          have hL : stars [rdv d (evD (ctD (ctD s 0) 3) (128 + cfM (dB s 0) + if (dL s 6).getD 0 0 = 0 then 64 else 0)), ansP m F w bg r, iar (F 5) 260 pd] h := hL
          have hL : stars [ansP m F w bg r, rdv d (evD (ctD (ctD s 0) 3) (128 + cfM (dB s 0) + if (dL s 6).getD 0 0 = 0 then 64 else 0)), iar (F 5) 260 pd] h := stars_ixn hL 3 rfl [1, 0, 2] (by decide) rfl
          refine e_aload_n 124 dX15_looks_123 rfl rfl ?_
          obtain ⟨A124, v124_0, v124_1, v124_2, v124_3, v124_4, v124_5, v124_6, v124_7, v124_8, v124_9, v124_10, v124_11, v124_12, v124_13, v124_14, v124_15, v124_16, v124_17, v124_18, v124_19, v124_20, v124_21⟩ := rdv_V _ 1 hL rfl
          refine e_get 127 (v := (.int (nI (dL s 6).length))) dX15_looks_124 rfl fl_X15_251_10 v124_0 rfl ?_
          refine e_iconst 128 (v := (nI 3)) dX15_looks_127 rfl (by decide) ?_
          refine e_isub 129 (v := (nI ((dL s 6).length - 3))) dX15_looks_128 rfl (pk_sub (by omega)) ?_
          refine e_istore_n 130 (ls' := [some (.ref m), some (.ref d), some (.int (nI ((dL s 6).getD 0 0))), some (.int (nI ((dL s 6).length - 3))), none, none, none]) dX15_looks_129 rfl (by decide) rfl ?_
          refine e_iconst 131 (v := (nI 0)) dX15_looks_130 rfl (by decide) ?_
          refine e_istore 133 (ls' := [some (.ref m), some (.ref d), some (.int (nI ((dL s 6).getD 0 0))), some (.int (nI ((dL s 6).length - 3))), some (.int (nI 0)), none, none]) dX15_looks_131 rfl (by decide) rfl ?_
          have cy := cf_yes (s := s) k4 (by omega)
          have hL : stars [ansP m F w bg r, rdv d (evD (ctD (ctD s 0) 3) (128 + cfM (dB s 0) + if (dL s 6).getD 0 0 = 0 then 64 else 0)), iar (F 5) 260 ([])] h := iar_em 2 hL rfl rfl
          rw [← cy.2] at hL
          rw [cy.1]
          refine e_wk [some (.ref m), some (.ref d), some (.int (nI ((dL s 6).getD 0 0))), some (.int (nI ((dL s 6).length - 3))), some (.int (nI 0)), none, none] ⟨rfl, rfl, rfl, rfl, rfl, trivial⟩ ?_
          have hok9 := okD_cf hok
          have he9 := okE_cf he
          refine l_looks1 (s := cfD s) he9 hok9 (to := (dL s 6).getD 0 0) (by exact h4) (fun h hL => ?_) _ 0 h (Nat.lt_succ_self _) (Nat.zero_le _) hL
          refine e_lc (ls' := [some (.ref m), some (.ref d), some (.int (nI ((dL (cfD s) 6).getD 0 0))), some (.int (nI (eaP (cfD s)).length)), none, none, none]) (by rw [show (eaP (cfD s)).length = (dL s 6).length - 3 from pf_len]; rfl) ?_
          exact g_looks161 (s := cfD s) he9 hok9 (by exact h4) hL
        · have k110 := j_ne0_f (a := ((dL s 6).getD 0 0)) (by omega) c110
          refine e_bipush 115 (v := (nI 64)) dX15_looks_113 rfl (by decide) ?_
          refine e_goto 119 dX15_looks_115 rfl ?_
          refine e_iadd 120 (v := (nI ((128 + 32) + 64))) dX15_looks_119 rfl (nI_add (128 + 32) 64) ?_
          refine e_top (v' := (nI (128 + cfM (dB s 0) + if (dL s 6).getD 0 0 = 0 then 64 else 0))) (congrArg nI (show ((128 + 32) + 64) = (128 + cfM (dB s 0) + if (dL s 6).getD 0 0 = 0 then 64 else 0) by rw [show dB s 0 = true from k99, if_pos (show (dL s 6).getD 0 0 = 0 by omega)]; decide)) ?_
          refine p_callV 123 hL [1, 0, 2] 3 rfl (by decide) (L1 := [rdv d (ctD (ctD s 0) 3)]) (L2 := [ansP m F w bg r, iar (F 5) 260 pd]) rfl rdv_O 1 rfl dX15_looks_120 rfl cv_X15_215 (k_X12_tells (s := (ctD (ctD s 0) 3)) (e := (128 + cfM (dB s 0) + if (dL s 6).getD 0 0 = 0 then 64 else 0)) (by exact (okE_ln he).2.1)) rfl rfl (Nat.le_of_ble_eq_true rfl) ⟨by decide, by omega, by omega⟩ (fun r1 L1 h q hL => ?_)
          obtain ⟨rfl, rfl⟩ := q
          have hL : stars [rdv d (evD (ctD (ctD s 0) 3) (128 + cfM (dB s 0) + if (dL s 6).getD 0 0 = 0 then 64 else 0)), ansP m F w bg r, iar (F 5) 260 pd] h := hL
          have hL : stars [ansP m F w bg r, rdv d (evD (ctD (ctD s 0) 3) (128 + cfM (dB s 0) + if (dL s 6).getD 0 0 = 0 then 64 else 0)), iar (F 5) 260 pd] h := stars_ixn hL 3 rfl [1, 0, 2] (by decide) rfl
          refine e_aload_n 124 dX15_looks_123 rfl rfl ?_
          obtain ⟨A124, v124_0, v124_1, v124_2, v124_3, v124_4, v124_5, v124_6, v124_7, v124_8, v124_9, v124_10, v124_11, v124_12, v124_13, v124_14, v124_15, v124_16, v124_17, v124_18, v124_19, v124_20, v124_21⟩ := rdv_V _ 1 hL rfl
          refine e_get 127 (v := (.int (nI (dL s 6).length))) dX15_looks_124 rfl fl_X15_251_10 v124_0 rfl ?_
          refine e_iconst 128 (v := (nI 3)) dX15_looks_127 rfl (by decide) ?_
          refine e_isub 129 (v := (nI ((dL s 6).length - 3))) dX15_looks_128 rfl (pk_sub (by omega)) ?_
          refine e_istore_n 130 (ls' := [some (.ref m), some (.ref d), some (.int (nI ((dL s 6).getD 0 0))), some (.int (nI ((dL s 6).length - 3))), none, none, none]) dX15_looks_129 rfl (by decide) rfl ?_
          refine e_iconst 131 (v := (nI 0)) dX15_looks_130 rfl (by decide) ?_
          refine e_istore 133 (ls' := [some (.ref m), some (.ref d), some (.int (nI ((dL s 6).getD 0 0))), some (.int (nI ((dL s 6).length - 3))), some (.int (nI 0)), none, none]) dX15_looks_131 rfl (by decide) rfl ?_
          have cy := cf_yes (s := s) k4 (by omega)
          have hL : stars [ansP m F w bg r, rdv d (evD (ctD (ctD s 0) 3) (128 + cfM (dB s 0) + if (dL s 6).getD 0 0 = 0 then 64 else 0)), iar (F 5) 260 ([])] h := iar_em 2 hL rfl rfl
          rw [← cy.2] at hL
          rw [cy.1]
          refine e_wk [some (.ref m), some (.ref d), some (.int (nI ((dL s 6).getD 0 0))), some (.int (nI ((dL s 6).length - 3))), some (.int (nI 0)), none, none] ⟨rfl, rfl, rfl, rfl, rfl, trivial⟩ ?_
          have hok9 := okD_cf hok
          have he9 := okE_cf he
          refine l_looks1 (s := cfD s) he9 hok9 (to := (dL s 6).getD 0 0) (by exact h4) (fun h hL => ?_) _ 0 h (Nat.lt_succ_self _) (Nat.zero_le _) hL
          refine e_lc (ls' := [some (.ref m), some (.ref d), some (.int (nI ((dL (cfD s) 6).getD 0 0))), some (.int (nI (eaP (cfD s)).length)), none, none, none]) (by rw [show (eaP (cfD s)).length = (dL s 6).length - 3 from pf_len]; rfl) ?_
          exact g_looks161 (s := cfD s) he9 hok9 (by exact h4) hL
    · have k78 := j_eq_f (a := ((dL s 6).getD 0 0)) (b := (s.1 1)) (by omega) (by omega) c78
      refine e_iload_n 82 dX15_looks_81 rfl rfl ?_
      refine e_if_eq 86 85 dX15_looks_82 rfl rfl (fun c82 => ?_) (fun c82 => ?_)
      · have k82 := j_eq0_t (a := ((dL s 6).getD 0 0)) (by omega) c82
        refine e_aload_n 87 dX15_looks_86 rfl rfl ?_
        refine e_iconst 88 (v := (nI 3)) dX15_looks_87 rfl (by decide) ?_
        refine p_callV 91 hL [1, 0, 2] 3 rfl (by decide) (L1 := [rdv d (ctD s 0)]) (L2 := [ansP m F w bg r, iar (F 5) 260 pd]) rfl rdv_O 1 rfl dX15_looks_88 rfl cv_X15_150 (k_X12_counts (s := (ctD s 0)) (k := 3) (by decide) (cUp_l9 (k := 0) (okD_C hok) 3)) rfl rfl (Nat.le_of_ble_eq_true rfl) ⟨by decide, by omega, by omega⟩ (fun r1 L1 h q hL => ?_)
        obtain ⟨rfl, rfl⟩ := q
        have hL : stars [rdv d (ctD (ctD s 0) 3), ansP m F w bg r, iar (F 5) 260 pd] h := hL
        have hL : stars [ansP m F w bg r, rdv d (ctD (ctD s 0) 3), iar (F 5) 260 pd] h := stars_ixn hL 3 rfl [1, 0, 2] (by decide) rfl
        refine e_aload_n 92 dX15_looks_91 rfl rfl ?_
        refine e_sipush 95 (v := (nI 128)) dX15_looks_92 rfl (by decide) ?_
        refine e_aload_n 96 dX15_looks_95 rfl rfl ?_
        obtain ⟨A96, v96_0, v96_1, v96_2, v96_3, v96_4, v96_5, v96_6, v96_7, v96_8, v96_9, v96_10, v96_11, v96_12, v96_13, v96_14, v96_15, v96_16, v96_17, v96_18, v96_19, v96_20, v96_21⟩ := rdv_V _ 1 hL rfl
        refine e_get 99 (v := (.int (bI (dB s 0)))) dX15_looks_96 rfl fl_X15_211_10 v96_0 rfl ?_
        refine e_if_eq 107 102 dX15_looks_99 rfl rfl (fun c99 => ?_) (fun c99 => ?_)
        · have k99 := jb_eq_t c99
          refine e_iconst 108 (v := (nI 0)) dX15_looks_107 rfl (by decide) ?_
          refine e_iadd 109 (v := (nI (128 + 0))) dX15_looks_108 rfl (nI_add 128 0) ?_
          refine e_iload_n 110 dX15_looks_109 rfl rfl ?_
          refine e_if_ne 118 113 dX15_looks_110 rfl rfl (fun c110 => ?_) (fun c110 => ?_)
          · have k110 := j_ne0_t (a := ((dL s 6).getD 0 0)) (by omega) c110
            refine e_iconst 119 (v := (nI 0)) dX15_looks_118 rfl (by decide) ?_
            refine e_iadd 120 (v := (nI ((128 + 0) + 0))) dX15_looks_119 rfl (nI_add (128 + 0) 0) ?_
            refine e_top (v' := (nI (128 + cfM (dB s 0) + if (dL s 6).getD 0 0 = 0 then 64 else 0))) (congrArg nI (show ((128 + 0) + 0) = (128 + cfM (dB s 0) + if (dL s 6).getD 0 0 = 0 then 64 else 0) by rw [show dB s 0 = false from k99, if_neg (show ¬ (dL s 6).getD 0 0 = 0 by omega)]; decide)) ?_
            refine p_callV 123 hL [1, 0, 2] 3 rfl (by decide) (L1 := [rdv d (ctD (ctD s 0) 3)]) (L2 := [ansP m F w bg r, iar (F 5) 260 pd]) rfl rdv_O 1 rfl dX15_looks_120 rfl cv_X15_215 (k_X12_tells (s := (ctD (ctD s 0) 3)) (e := (128 + cfM (dB s 0) + if (dL s 6).getD 0 0 = 0 then 64 else 0)) (by exact (okE_ln he).2.1)) rfl rfl (Nat.le_of_ble_eq_true rfl) ⟨by decide, by omega, by omega⟩ (fun r1 L1 h q hL => ?_)
            obtain ⟨rfl, rfl⟩ := q
            have hL : stars [rdv d (evD (ctD (ctD s 0) 3) (128 + cfM (dB s 0) + if (dL s 6).getD 0 0 = 0 then 64 else 0)), ansP m F w bg r, iar (F 5) 260 pd] h := hL
            have hL : stars [ansP m F w bg r, rdv d (evD (ctD (ctD s 0) 3) (128 + cfM (dB s 0) + if (dL s 6).getD 0 0 = 0 then 64 else 0)), iar (F 5) 260 pd] h := stars_ixn hL 3 rfl [1, 0, 2] (by decide) rfl
            refine e_aload_n 124 dX15_looks_123 rfl rfl ?_
            obtain ⟨A124, v124_0, v124_1, v124_2, v124_3, v124_4, v124_5, v124_6, v124_7, v124_8, v124_9, v124_10, v124_11, v124_12, v124_13, v124_14, v124_15, v124_16, v124_17, v124_18, v124_19, v124_20, v124_21⟩ := rdv_V _ 1 hL rfl
            refine e_get 127 (v := (.int (nI (dL s 6).length))) dX15_looks_124 rfl fl_X15_251_10 v124_0 rfl ?_
            refine e_iconst 128 (v := (nI 3)) dX15_looks_127 rfl (by decide) ?_
            refine e_isub 129 (v := (nI ((dL s 6).length - 3))) dX15_looks_128 rfl (pk_sub (by omega)) ?_
            refine e_istore_n 130 (ls' := [some (.ref m), some (.ref d), some (.int (nI ((dL s 6).getD 0 0))), some (.int (nI ((dL s 6).length - 3))), none, none, none]) dX15_looks_129 rfl (by decide) rfl ?_
            refine e_iconst 131 (v := (nI 0)) dX15_looks_130 rfl (by decide) ?_
            refine e_istore 133 (ls' := [some (.ref m), some (.ref d), some (.int (nI ((dL s 6).getD 0 0))), some (.int (nI ((dL s 6).length - 3))), some (.int (nI 0)), none, none]) dX15_looks_131 rfl (by decide) rfl ?_
            have cy := cf_yes (s := s) k4 (by omega)
            have hL : stars [ansP m F w bg r, rdv d (evD (ctD (ctD s 0) 3) (128 + cfM (dB s 0) + if (dL s 6).getD 0 0 = 0 then 64 else 0)), iar (F 5) 260 ([])] h := iar_em 2 hL rfl rfl
            rw [← cy.2] at hL
            rw [cy.1]
            refine e_wk [some (.ref m), some (.ref d), some (.int (nI ((dL s 6).getD 0 0))), some (.int (nI ((dL s 6).length - 3))), some (.int (nI 0)), none, none] ⟨rfl, rfl, rfl, rfl, rfl, trivial⟩ ?_
            have hok9 := okD_cf hok
            have he9 := okE_cf he
            refine l_looks1 (s := cfD s) he9 hok9 (to := (dL s 6).getD 0 0) (by exact h4) (fun h hL => ?_) _ 0 h (Nat.lt_succ_self _) (Nat.zero_le _) hL
            refine e_lc (ls' := [some (.ref m), some (.ref d), some (.int (nI ((dL (cfD s) 6).getD 0 0))), some (.int (nI (eaP (cfD s)).length)), none, none, none]) (by rw [show (eaP (cfD s)).length = (dL s 6).length - 3 from pf_len]; rfl) ?_
            exact g_looks161 (s := cfD s) he9 hok9 (by exact h4) hL
          · have k110 := j_ne0_f (a := ((dL s 6).getD 0 0)) (by omega) c110
            refine e_bipush 115 (v := (nI 64)) dX15_looks_113 rfl (by decide) ?_
            refine e_goto 119 dX15_looks_115 rfl ?_
            refine e_iadd 120 (v := (nI ((128 + 0) + 64))) dX15_looks_119 rfl (nI_add (128 + 0) 64) ?_
            refine e_top (v' := (nI (128 + cfM (dB s 0) + if (dL s 6).getD 0 0 = 0 then 64 else 0))) (congrArg nI (show ((128 + 0) + 64) = (128 + cfM (dB s 0) + if (dL s 6).getD 0 0 = 0 then 64 else 0) by rw [show dB s 0 = false from k99, if_pos (show (dL s 6).getD 0 0 = 0 by omega)]; decide)) ?_
            refine p_callV 123 hL [1, 0, 2] 3 rfl (by decide) (L1 := [rdv d (ctD (ctD s 0) 3)]) (L2 := [ansP m F w bg r, iar (F 5) 260 pd]) rfl rdv_O 1 rfl dX15_looks_120 rfl cv_X15_215 (k_X12_tells (s := (ctD (ctD s 0) 3)) (e := (128 + cfM (dB s 0) + if (dL s 6).getD 0 0 = 0 then 64 else 0)) (by exact (okE_ln he).2.1)) rfl rfl (Nat.le_of_ble_eq_true rfl) ⟨by decide, by omega, by omega⟩ (fun r1 L1 h q hL => ?_)
            obtain ⟨rfl, rfl⟩ := q
            have hL : stars [rdv d (evD (ctD (ctD s 0) 3) (128 + cfM (dB s 0) + if (dL s 6).getD 0 0 = 0 then 64 else 0)), ansP m F w bg r, iar (F 5) 260 pd] h := hL
            have hL : stars [ansP m F w bg r, rdv d (evD (ctD (ctD s 0) 3) (128 + cfM (dB s 0) + if (dL s 6).getD 0 0 = 0 then 64 else 0)), iar (F 5) 260 pd] h := stars_ixn hL 3 rfl [1, 0, 2] (by decide) rfl
            refine e_aload_n 124 dX15_looks_123 rfl rfl ?_
            obtain ⟨A124, v124_0, v124_1, v124_2, v124_3, v124_4, v124_5, v124_6, v124_7, v124_8, v124_9, v124_10, v124_11, v124_12, v124_13, v124_14, v124_15, v124_16, v124_17, v124_18, v124_19, v124_20, v124_21⟩ := rdv_V _ 1 hL rfl
            refine e_get 127 (v := (.int (nI (dL s 6).length))) dX15_looks_124 rfl fl_X15_251_10 v124_0 rfl ?_
            refine e_iconst 128 (v := (nI 3)) dX15_looks_127 rfl (by decide) ?_
            refine e_isub 129 (v := (nI ((dL s 6).length - 3))) dX15_looks_128 rfl (pk_sub (by omega)) ?_
            refine e_istore_n 130 (ls' := [some (.ref m), some (.ref d), some (.int (nI ((dL s 6).getD 0 0))), some (.int (nI ((dL s 6).length - 3))), none, none, none]) dX15_looks_129 rfl (by decide) rfl ?_
            refine e_iconst 131 (v := (nI 0)) dX15_looks_130 rfl (by decide) ?_
            refine e_istore 133 (ls' := [some (.ref m), some (.ref d), some (.int (nI ((dL s 6).getD 0 0))), some (.int (nI ((dL s 6).length - 3))), some (.int (nI 0)), none, none]) dX15_looks_131 rfl (by decide) rfl ?_
            have cy := cf_yes (s := s) k4 (by omega)
            have hL : stars [ansP m F w bg r, rdv d (evD (ctD (ctD s 0) 3) (128 + cfM (dB s 0) + if (dL s 6).getD 0 0 = 0 then 64 else 0)), iar (F 5) 260 ([])] h := iar_em 2 hL rfl rfl
            rw [← cy.2] at hL
            rw [cy.1]
            refine e_wk [some (.ref m), some (.ref d), some (.int (nI ((dL s 6).getD 0 0))), some (.int (nI ((dL s 6).length - 3))), some (.int (nI 0)), none, none] ⟨rfl, rfl, rfl, rfl, rfl, trivial⟩ ?_
            have hok9 := okD_cf hok
            have he9 := okE_cf he
            refine l_looks1 (s := cfD s) he9 hok9 (to := (dL s 6).getD 0 0) (by exact h4) (fun h hL => ?_) _ 0 h (Nat.lt_succ_self _) (Nat.zero_le _) hL
            refine e_lc (ls' := [some (.ref m), some (.ref d), some (.int (nI ((dL (cfD s) 6).getD 0 0))), some (.int (nI (eaP (cfD s)).length)), none, none, none]) (by rw [show (eaP (cfD s)).length = (dL s 6).length - 3 from pf_len]; rfl) ?_
            exact g_looks161 (s := cfD s) he9 hok9 (by exact h4) hL
        · have k99 := jb_eq_f c99
          refine e_bipush 104 (v := (nI 32)) dX15_looks_102 rfl (by decide) ?_
          refine e_goto 108 dX15_looks_104 rfl ?_
          refine e_iadd 109 (v := (nI (128 + 32))) dX15_looks_108 rfl (nI_add 128 32) ?_
          refine e_iload_n 110 dX15_looks_109 rfl rfl ?_
          refine e_if_ne 118 113 dX15_looks_110 rfl rfl (fun c110 => ?_) (fun c110 => ?_)
          · have k110 := j_ne0_t (a := ((dL s 6).getD 0 0)) (by omega) c110
            refine e_iconst 119 (v := (nI 0)) dX15_looks_118 rfl (by decide) ?_
            refine e_iadd 120 (v := (nI ((128 + 32) + 0))) dX15_looks_119 rfl (nI_add (128 + 32) 0) ?_
            refine e_top (v' := (nI (128 + cfM (dB s 0) + if (dL s 6).getD 0 0 = 0 then 64 else 0))) (congrArg nI (show ((128 + 32) + 0) = (128 + cfM (dB s 0) + if (dL s 6).getD 0 0 = 0 then 64 else 0) by rw [show dB s 0 = true from k99, if_neg (show ¬ (dL s 6).getD 0 0 = 0 by omega)]; decide)) ?_
            refine p_callV 123 hL [1, 0, 2] 3 rfl (by decide) (L1 := [rdv d (ctD (ctD s 0) 3)]) (L2 := [ansP m F w bg r, iar (F 5) 260 pd]) rfl rdv_O 1 rfl dX15_looks_120 rfl cv_X15_215 (k_X12_tells (s := (ctD (ctD s 0) 3)) (e := (128 + cfM (dB s 0) + if (dL s 6).getD 0 0 = 0 then 64 else 0)) (by exact (okE_ln he).2.1)) rfl rfl (Nat.le_of_ble_eq_true rfl) ⟨by decide, by omega, by omega⟩ (fun r1 L1 h q hL => ?_)
            obtain ⟨rfl, rfl⟩ := q
            have hL : stars [rdv d (evD (ctD (ctD s 0) 3) (128 + cfM (dB s 0) + if (dL s 6).getD 0 0 = 0 then 64 else 0)), ansP m F w bg r, iar (F 5) 260 pd] h := hL
            have hL : stars [ansP m F w bg r, rdv d (evD (ctD (ctD s 0) 3) (128 + cfM (dB s 0) + if (dL s 6).getD 0 0 = 0 then 64 else 0)), iar (F 5) 260 pd] h := stars_ixn hL 3 rfl [1, 0, 2] (by decide) rfl
            refine e_aload_n 124 dX15_looks_123 rfl rfl ?_
            obtain ⟨A124, v124_0, v124_1, v124_2, v124_3, v124_4, v124_5, v124_6, v124_7, v124_8, v124_9, v124_10, v124_11, v124_12, v124_13, v124_14, v124_15, v124_16, v124_17, v124_18, v124_19, v124_20, v124_21⟩ := rdv_V _ 1 hL rfl
            refine e_get 127 (v := (.int (nI (dL s 6).length))) dX15_looks_124 rfl fl_X15_251_10 v124_0 rfl ?_
            refine e_iconst 128 (v := (nI 3)) dX15_looks_127 rfl (by decide) ?_
            refine e_isub 129 (v := (nI ((dL s 6).length - 3))) dX15_looks_128 rfl (pk_sub (by omega)) ?_
            refine e_istore_n 130 (ls' := [some (.ref m), some (.ref d), some (.int (nI ((dL s 6).getD 0 0))), some (.int (nI ((dL s 6).length - 3))), none, none, none]) dX15_looks_129 rfl (by decide) rfl ?_
            refine e_iconst 131 (v := (nI 0)) dX15_looks_130 rfl (by decide) ?_
            refine e_istore 133 (ls' := [some (.ref m), some (.ref d), some (.int (nI ((dL s 6).getD 0 0))), some (.int (nI ((dL s 6).length - 3))), some (.int (nI 0)), none, none]) dX15_looks_131 rfl (by decide) rfl ?_
            have cy := cf_yes (s := s) k4 (by omega)
            have hL : stars [ansP m F w bg r, rdv d (evD (ctD (ctD s 0) 3) (128 + cfM (dB s 0) + if (dL s 6).getD 0 0 = 0 then 64 else 0)), iar (F 5) 260 ([])] h := iar_em 2 hL rfl rfl
            rw [← cy.2] at hL
            rw [cy.1]
            refine e_wk [some (.ref m), some (.ref d), some (.int (nI ((dL s 6).getD 0 0))), some (.int (nI ((dL s 6).length - 3))), some (.int (nI 0)), none, none] ⟨rfl, rfl, rfl, rfl, rfl, trivial⟩ ?_
            have hok9 := okD_cf hok
            have he9 := okE_cf he
            refine l_looks1 (s := cfD s) he9 hok9 (to := (dL s 6).getD 0 0) (by exact h4) (fun h hL => ?_) _ 0 h (Nat.lt_succ_self _) (Nat.zero_le _) hL
            refine e_lc (ls' := [some (.ref m), some (.ref d), some (.int (nI ((dL (cfD s) 6).getD 0 0))), some (.int (nI (eaP (cfD s)).length)), none, none, none]) (by rw [show (eaP (cfD s)).length = (dL s 6).length - 3 from pf_len]; rfl) ?_
            exact g_looks161 (s := cfD s) he9 hok9 (by exact h4) hL
          · have k110 := j_ne0_f (a := ((dL s 6).getD 0 0)) (by omega) c110
            refine e_bipush 115 (v := (nI 64)) dX15_looks_113 rfl (by decide) ?_
            refine e_goto 119 dX15_looks_115 rfl ?_
            refine e_iadd 120 (v := (nI ((128 + 32) + 64))) dX15_looks_119 rfl (nI_add (128 + 32) 64) ?_
            refine e_top (v' := (nI (128 + cfM (dB s 0) + if (dL s 6).getD 0 0 = 0 then 64 else 0))) (congrArg nI (show ((128 + 32) + 64) = (128 + cfM (dB s 0) + if (dL s 6).getD 0 0 = 0 then 64 else 0) by rw [show dB s 0 = true from k99, if_pos (show (dL s 6).getD 0 0 = 0 by omega)]; decide)) ?_
            refine p_callV 123 hL [1, 0, 2] 3 rfl (by decide) (L1 := [rdv d (ctD (ctD s 0) 3)]) (L2 := [ansP m F w bg r, iar (F 5) 260 pd]) rfl rdv_O 1 rfl dX15_looks_120 rfl cv_X15_215 (k_X12_tells (s := (ctD (ctD s 0) 3)) (e := (128 + cfM (dB s 0) + if (dL s 6).getD 0 0 = 0 then 64 else 0)) (by exact (okE_ln he).2.1)) rfl rfl (Nat.le_of_ble_eq_true rfl) ⟨by decide, by omega, by omega⟩ (fun r1 L1 h q hL => ?_)
            obtain ⟨rfl, rfl⟩ := q
            have hL : stars [rdv d (evD (ctD (ctD s 0) 3) (128 + cfM (dB s 0) + if (dL s 6).getD 0 0 = 0 then 64 else 0)), ansP m F w bg r, iar (F 5) 260 pd] h := hL
            have hL : stars [ansP m F w bg r, rdv d (evD (ctD (ctD s 0) 3) (128 + cfM (dB s 0) + if (dL s 6).getD 0 0 = 0 then 64 else 0)), iar (F 5) 260 pd] h := stars_ixn hL 3 rfl [1, 0, 2] (by decide) rfl
            refine e_aload_n 124 dX15_looks_123 rfl rfl ?_
            obtain ⟨A124, v124_0, v124_1, v124_2, v124_3, v124_4, v124_5, v124_6, v124_7, v124_8, v124_9, v124_10, v124_11, v124_12, v124_13, v124_14, v124_15, v124_16, v124_17, v124_18, v124_19, v124_20, v124_21⟩ := rdv_V _ 1 hL rfl
            refine e_get 127 (v := (.int (nI (dL s 6).length))) dX15_looks_124 rfl fl_X15_251_10 v124_0 rfl ?_
            refine e_iconst 128 (v := (nI 3)) dX15_looks_127 rfl (by decide) ?_
            refine e_isub 129 (v := (nI ((dL s 6).length - 3))) dX15_looks_128 rfl (pk_sub (by omega)) ?_
            refine e_istore_n 130 (ls' := [some (.ref m), some (.ref d), some (.int (nI ((dL s 6).getD 0 0))), some (.int (nI ((dL s 6).length - 3))), none, none, none]) dX15_looks_129 rfl (by decide) rfl ?_
            refine e_iconst 131 (v := (nI 0)) dX15_looks_130 rfl (by decide) ?_
            refine e_istore 133 (ls' := [some (.ref m), some (.ref d), some (.int (nI ((dL s 6).getD 0 0))), some (.int (nI ((dL s 6).length - 3))), some (.int (nI 0)), none, none]) dX15_looks_131 rfl (by decide) rfl ?_
            have cy := cf_yes (s := s) k4 (by omega)
            have hL : stars [ansP m F w bg r, rdv d (evD (ctD (ctD s 0) 3) (128 + cfM (dB s 0) + if (dL s 6).getD 0 0 = 0 then 64 else 0)), iar (F 5) 260 ([])] h := iar_em 2 hL rfl rfl
            rw [← cy.2] at hL
            rw [cy.1]
            refine e_wk [some (.ref m), some (.ref d), some (.int (nI ((dL s 6).getD 0 0))), some (.int (nI ((dL s 6).length - 3))), some (.int (nI 0)), none, none] ⟨rfl, rfl, rfl, rfl, rfl, trivial⟩ ?_
            have hok9 := okD_cf hok
            have he9 := okE_cf he
            refine l_looks1 (s := cfD s) he9 hok9 (to := (dL s 6).getD 0 0) (by exact h4) (fun h hL => ?_) _ 0 h (Nat.lt_succ_self _) (Nat.zero_le _) hL
            refine e_lc (ls' := [some (.ref m), some (.ref d), some (.int (nI ((dL (cfD s) 6).getD 0 0))), some (.int (nI (eaP (cfD s)).length)), none, none, none]) (by rw [show (eaP (cfD s)).length = (dL s 6).length - 3 from pf_len]; rfl) ?_
            exact g_looks161 (s := cfD s) he9 hok9 (by exact h4) hL
      · have k82 := j_eq0_f (a := ((dL s 6).getD 0 0)) (by omega) c82
        exact e_vret dX15_looks_85 rfl (by omega) (by omega) (⟨_, ⟨rfl, _, _, rfl⟩, by rw [cf_no k4 (by omega) (by omega)]; exact hL⟩)
  · have k4 := jb_ne_f c4
    refine e_aload_n 8 dX15_looks_7 rfl rfl ?_
    refine e_iconst 9 (v := (nI 1)) dX15_looks_8 rfl (by decide) ?_
    refine p_callV 12 hL [1, 0, 2] 3 rfl (by decide) (L1 := [rdv d s]) (L2 := [ansP m F w bg r, iar (F 5) 260 pd]) rfl rdv_O 1 rfl dX15_looks_9 rfl cv_X15_150 (k_X12_counts (s := s) (k := 1) (by decide) (okD_C hok 1)) rfl rfl (Nat.le_of_ble_eq_true rfl) ⟨by decide, by omega, by omega⟩ (fun r1 L1 h q hL => ?_)
    obtain ⟨rfl, rfl⟩ := q
    have hL : stars [rdv d (ctD s 1), ansP m F w bg r, iar (F 5) 260 pd] h := hL
    have hL : stars [ansP m F w bg r, rdv d (ctD s 1), iar (F 5) 260 pd] h := stars_ixn hL 3 rfl [1, 0, 2] (by decide) rfl
    refine e_aload_n 13 dX15_looks_12 rfl rfl ?_
    obtain ⟨A13, v13_0, v13_1, v13_2, v13_3, v13_4, v13_5, v13_6, v13_7, v13_8, v13_9, v13_10, v13_11, v13_12, v13_13, v13_14, v13_15, v13_16, v13_17, v13_18, v13_19, v13_20, v13_21⟩ := rdv_V _ 1 hL rfl
    refine e_get 16 (v := (.int (bI (dB s 2)))) dX15_looks_13 rfl fl_X15_242_10 v13_0 rfl ?_
    refine e_if_eq 25 19 dX15_looks_16 rfl rfl (fun c16 => ?_) (fun c16 => ?_)
    · have k16 := jb_eq_t c16
      refine e_aload_n 26 dX15_looks_25 rfl rfl ?_
      refine e_sipush 29 (v := (nI 130)) dX15_looks_26 rfl (by decide) ?_
      refine e_aload_n 30 dX15_looks_29 rfl rfl ?_
      refine e_get 33 (v := (.int (bI (dB s 2)))) dX15_looks_30 rfl fl_X15_242_10 v13_0 rfl ?_
      refine e_if_eq 41 36 dX15_looks_33 rfl rfl (fun c33 => ?_) (fun c33 => ?_)
      · have k33 := jb_eq_t c33
        refine e_iconst 42 (v := (nI 0)) dX15_looks_41 rfl (by decide) ?_
        refine e_iadd 43 (v := (nI (130 + 0))) dX15_looks_42 rfl (nI_add 130 0) ?_
        refine e_aload_n 44 dX15_looks_43 rfl rfl ?_
        refine e_get 47 (v := (.int (bI (dB s 0)))) dX15_looks_44 rfl fl_X15_211_10 v13_0 rfl ?_
        refine e_if_eq 55 50 dX15_looks_47 rfl rfl (fun c47 => ?_) (fun c47 => ?_)
        · have k47 := jb_eq_t c47
          refine e_iconst 56 (v := (nI 0)) dX15_looks_55 rfl (by decide) ?_
          refine e_iadd 57 (v := (nI ((130 + 0) + 0))) dX15_looks_56 rfl (nI_add (130 + 0) 0) ?_
          refine e_top (v' := (nI (130 + (cfM (dB s 0) + if dB s 2 then 16 else 0)))) (congrArg nI (show ((130 + 0) + 0) = (130 + (cfM (dB s 0) + if dB s 2 then 16 else 0)) by rw [show dB s 2 = false from k33, show dB s 0 = false from k47]; decide)) ?_
          refine p_callV 60 hL [1, 0, 2] 3 rfl (by decide) (L1 := [rdv d (ctD s 1)]) (L2 := [ansP m F w bg r, iar (F 5) 260 pd]) rfl rdv_O 1 rfl dX15_looks_57 rfl cv_X15_215 (k_X12_tells (s := (ctD s 1)) (e := (130 + (cfM (dB s 0) + if dB s 2 then 16 else 0))) (by exact (okE_ln he).2.1)) rfl rfl (Nat.le_of_ble_eq_true rfl) ⟨by decide, by omega, by omega⟩ (fun r1 L1 h q hL => ?_)
          obtain ⟨rfl, rfl⟩ := q
          have hL : stars [rdv d (evD (ctD s 1) (130 + (cfM (dB s 0) + if dB s 2 then 16 else 0))), ansP m F w bg r, iar (F 5) 260 pd] h := hL
          have hL : stars [ansP m F w bg r, rdv d (evD (ctD s 1) (130 + (cfM (dB s 0) + if dB s 2 then 16 else 0))), iar (F 5) 260 pd] h := stars_ixn hL 3 rfl [1, 0, 2] (by decide) rfl
          exact e_vret dX15_looks_60 rfl (by omega) (by omega) (⟨_, ⟨rfl, _, _, rfl⟩, by rw [cf_bad k4]; rw [show dB s 2 = false from k16] at hL ⊢; exact hL⟩)
        · have k47 := jb_eq_f c47
          refine e_bipush 52 (v := (nI 32)) dX15_looks_50 rfl (by decide) ?_
          refine e_goto 56 dX15_looks_52 rfl ?_
          refine e_iadd 57 (v := (nI ((130 + 0) + 32))) dX15_looks_56 rfl (nI_add (130 + 0) 32) ?_
          refine e_top (v' := (nI (130 + (cfM (dB s 0) + if dB s 2 then 16 else 0)))) (congrArg nI (show ((130 + 0) + 32) = (130 + (cfM (dB s 0) + if dB s 2 then 16 else 0)) by rw [show dB s 2 = false from k33, show dB s 0 = true from k47]; decide)) ?_
          refine p_callV 60 hL [1, 0, 2] 3 rfl (by decide) (L1 := [rdv d (ctD s 1)]) (L2 := [ansP m F w bg r, iar (F 5) 260 pd]) rfl rdv_O 1 rfl dX15_looks_57 rfl cv_X15_215 (k_X12_tells (s := (ctD s 1)) (e := (130 + (cfM (dB s 0) + if dB s 2 then 16 else 0))) (by exact (okE_ln he).2.1)) rfl rfl (Nat.le_of_ble_eq_true rfl) ⟨by decide, by omega, by omega⟩ (fun r1 L1 h q hL => ?_)
          obtain ⟨rfl, rfl⟩ := q
          have hL : stars [rdv d (evD (ctD s 1) (130 + (cfM (dB s 0) + if dB s 2 then 16 else 0))), ansP m F w bg r, iar (F 5) 260 pd] h := hL
          have hL : stars [ansP m F w bg r, rdv d (evD (ctD s 1) (130 + (cfM (dB s 0) + if dB s 2 then 16 else 0))), iar (F 5) 260 pd] h := stars_ixn hL 3 rfl [1, 0, 2] (by decide) rfl
          exact e_vret dX15_looks_60 rfl (by omega) (by omega) (⟨_, ⟨rfl, _, _, rfl⟩, by rw [cf_bad k4]; rw [show dB s 2 = false from k16] at hL ⊢; exact hL⟩)
      · have k33 := jb_eq_f c33
        refine e_bipush 38 (v := (nI 16)) dX15_looks_36 rfl (by decide) ?_
        refine e_goto 42 dX15_looks_38 rfl ?_
        refine e_iadd 43 (v := (nI (130 + 16))) dX15_looks_42 rfl (nI_add 130 16) ?_
        refine e_aload_n 44 dX15_looks_43 rfl rfl ?_
        refine e_get 47 (v := (.int (bI (dB s 0)))) dX15_looks_44 rfl fl_X15_211_10 v13_0 rfl ?_
        refine e_if_eq 55 50 dX15_looks_47 rfl rfl (fun c47 => ?_) (fun c47 => ?_)
        · have k47 := jb_eq_t c47
          refine e_iconst 56 (v := (nI 0)) dX15_looks_55 rfl (by decide) ?_
          refine e_iadd 57 (v := (nI ((130 + 16) + 0))) dX15_looks_56 rfl (nI_add (130 + 16) 0) ?_
          refine e_top (v' := (nI (130 + (cfM (dB s 0) + if dB s 2 then 16 else 0)))) (congrArg nI (show ((130 + 16) + 0) = (130 + (cfM (dB s 0) + if dB s 2 then 16 else 0)) by rw [show dB s 2 = true from k33, show dB s 0 = false from k47]; decide)) ?_
          refine p_callV 60 hL [1, 0, 2] 3 rfl (by decide) (L1 := [rdv d (ctD s 1)]) (L2 := [ansP m F w bg r, iar (F 5) 260 pd]) rfl rdv_O 1 rfl dX15_looks_57 rfl cv_X15_215 (k_X12_tells (s := (ctD s 1)) (e := (130 + (cfM (dB s 0) + if dB s 2 then 16 else 0))) (by exact (okE_ln he).2.1)) rfl rfl (Nat.le_of_ble_eq_true rfl) ⟨by decide, by omega, by omega⟩ (fun r1 L1 h q hL => ?_)
          obtain ⟨rfl, rfl⟩ := q
          have hL : stars [rdv d (evD (ctD s 1) (130 + (cfM (dB s 0) + if dB s 2 then 16 else 0))), ansP m F w bg r, iar (F 5) 260 pd] h := hL
          have hL : stars [ansP m F w bg r, rdv d (evD (ctD s 1) (130 + (cfM (dB s 0) + if dB s 2 then 16 else 0))), iar (F 5) 260 pd] h := stars_ixn hL 3 rfl [1, 0, 2] (by decide) rfl
          exact e_vret dX15_looks_60 rfl (by omega) (by omega) (⟨_, ⟨rfl, _, _, rfl⟩, by rw [cf_bad k4]; rw [show dB s 2 = false from k16] at hL ⊢; exact hL⟩)
        · have k47 := jb_eq_f c47
          refine e_bipush 52 (v := (nI 32)) dX15_looks_50 rfl (by decide) ?_
          refine e_goto 56 dX15_looks_52 rfl ?_
          refine e_iadd 57 (v := (nI ((130 + 16) + 32))) dX15_looks_56 rfl (nI_add (130 + 16) 32) ?_
          refine e_top (v' := (nI (130 + (cfM (dB s 0) + if dB s 2 then 16 else 0)))) (congrArg nI (show ((130 + 16) + 32) = (130 + (cfM (dB s 0) + if dB s 2 then 16 else 0)) by rw [show dB s 2 = true from k33, show dB s 0 = true from k47]; decide)) ?_
          refine p_callV 60 hL [1, 0, 2] 3 rfl (by decide) (L1 := [rdv d (ctD s 1)]) (L2 := [ansP m F w bg r, iar (F 5) 260 pd]) rfl rdv_O 1 rfl dX15_looks_57 rfl cv_X15_215 (k_X12_tells (s := (ctD s 1)) (e := (130 + (cfM (dB s 0) + if dB s 2 then 16 else 0))) (by exact (okE_ln he).2.1)) rfl rfl (Nat.le_of_ble_eq_true rfl) ⟨by decide, by omega, by omega⟩ (fun r1 L1 h q hL => ?_)
          obtain ⟨rfl, rfl⟩ := q
          have hL : stars [rdv d (evD (ctD s 1) (130 + (cfM (dB s 0) + if dB s 2 then 16 else 0))), ansP m F w bg r, iar (F 5) 260 pd] h := hL
          have hL : stars [ansP m F w bg r, rdv d (evD (ctD s 1) (130 + (cfM (dB s 0) + if dB s 2 then 16 else 0))), iar (F 5) 260 pd] h := stars_ixn hL 3 rfl [1, 0, 2] (by decide) rfl
          exact e_vret dX15_looks_60 rfl (by omega) (by omega) (⟨_, ⟨rfl, _, _, rfl⟩, by rw [cf_bad k4]; rw [show dB s 2 = false from k16] at hL ⊢; exact hL⟩)
    · have k16 := jb_eq_f c16
      refine e_aload_n 20 dX15_looks_19 rfl rfl ?_
      refine e_bipush 22 (v := (nI 7)) dX15_looks_20 rfl (by decide) ?_
      refine p_callV 25 hL [1, 0, 2] 3 rfl (by decide) (L1 := [rdv d (ctD s 1)]) (L2 := [ansP m F w bg r, iar (F 5) 260 pd]) rfl rdv_O 1 rfl dX15_looks_22 rfl cv_X15_150 (k_X12_counts (s := (ctD s 1)) (k := 7) (by decide) (cUp_l9 (k := 1) (okD_C hok) 7)) rfl rfl (Nat.le_of_ble_eq_true rfl) ⟨by decide, by omega, by omega⟩ (fun r1 L1 h q hL => ?_)
      obtain ⟨rfl, rfl⟩ := q
      have hL : stars [rdv d (ctD (ctD s 1) 7), ansP m F w bg r, iar (F 5) 260 pd] h := hL
      have hL : stars [ansP m F w bg r, rdv d (ctD (ctD s 1) 7), iar (F 5) 260 pd] h := stars_ixn hL 3 rfl [1, 0, 2] (by decide) rfl
      refine e_aload_n 26 dX15_looks_25 rfl rfl ?_
      refine e_sipush 29 (v := (nI 130)) dX15_looks_26 rfl (by decide) ?_
      refine e_aload_n 30 dX15_looks_29 rfl rfl ?_
      obtain ⟨A30, v30_0, v30_1, v30_2, v30_3, v30_4, v30_5, v30_6, v30_7, v30_8, v30_9, v30_10, v30_11, v30_12, v30_13, v30_14, v30_15, v30_16, v30_17, v30_18, v30_19, v30_20, v30_21⟩ := rdv_V _ 1 hL rfl
      refine e_get 33 (v := (.int (bI (dB s 2)))) dX15_looks_30 rfl fl_X15_242_10 v30_0 rfl ?_
      refine e_if_eq 41 36 dX15_looks_33 rfl rfl (fun c33 => ?_) (fun c33 => ?_)
      · have k33 := jb_eq_t c33
        refine e_iconst 42 (v := (nI 0)) dX15_looks_41 rfl (by decide) ?_
        refine e_iadd 43 (v := (nI (130 + 0))) dX15_looks_42 rfl (nI_add 130 0) ?_
        refine e_aload_n 44 dX15_looks_43 rfl rfl ?_
        refine e_get 47 (v := (.int (bI (dB s 0)))) dX15_looks_44 rfl fl_X15_211_10 v30_0 rfl ?_
        refine e_if_eq 55 50 dX15_looks_47 rfl rfl (fun c47 => ?_) (fun c47 => ?_)
        · have k47 := jb_eq_t c47
          refine e_iconst 56 (v := (nI 0)) dX15_looks_55 rfl (by decide) ?_
          refine e_iadd 57 (v := (nI ((130 + 0) + 0))) dX15_looks_56 rfl (nI_add (130 + 0) 0) ?_
          refine e_top (v' := (nI (130 + (cfM (dB s 0) + if dB s 2 then 16 else 0)))) (congrArg nI (show ((130 + 0) + 0) = (130 + (cfM (dB s 0) + if dB s 2 then 16 else 0)) by rw [show dB s 2 = false from k33, show dB s 0 = false from k47]; decide)) ?_
          refine p_callV 60 hL [1, 0, 2] 3 rfl (by decide) (L1 := [rdv d (ctD (ctD s 1) 7)]) (L2 := [ansP m F w bg r, iar (F 5) 260 pd]) rfl rdv_O 1 rfl dX15_looks_57 rfl cv_X15_215 (k_X12_tells (s := (ctD (ctD s 1) 7)) (e := (130 + (cfM (dB s 0) + if dB s 2 then 16 else 0))) (by exact (okE_ln he).2.1)) rfl rfl (Nat.le_of_ble_eq_true rfl) ⟨by decide, by omega, by omega⟩ (fun r1 L1 h q hL => ?_)
          obtain ⟨rfl, rfl⟩ := q
          have hL : stars [rdv d (evD (ctD (ctD s 1) 7) (130 + (cfM (dB s 0) + if dB s 2 then 16 else 0))), ansP m F w bg r, iar (F 5) 260 pd] h := hL
          have hL : stars [ansP m F w bg r, rdv d (evD (ctD (ctD s 1) 7) (130 + (cfM (dB s 0) + if dB s 2 then 16 else 0))), iar (F 5) 260 pd] h := stars_ixn hL 3 rfl [1, 0, 2] (by decide) rfl
          exact e_vret dX15_looks_60 rfl (by omega) (by omega) (⟨_, ⟨rfl, _, _, rfl⟩, by rw [cf_bad k4]; rw [show dB s 2 = true from k16] at hL ⊢; exact hL⟩)
        · have k47 := jb_eq_f c47
          refine e_bipush 52 (v := (nI 32)) dX15_looks_50 rfl (by decide) ?_
          refine e_goto 56 dX15_looks_52 rfl ?_
          refine e_iadd 57 (v := (nI ((130 + 0) + 32))) dX15_looks_56 rfl (nI_add (130 + 0) 32) ?_
          refine e_top (v' := (nI (130 + (cfM (dB s 0) + if dB s 2 then 16 else 0)))) (congrArg nI (show ((130 + 0) + 32) = (130 + (cfM (dB s 0) + if dB s 2 then 16 else 0)) by rw [show dB s 2 = false from k33, show dB s 0 = true from k47]; decide)) ?_
          refine p_callV 60 hL [1, 0, 2] 3 rfl (by decide) (L1 := [rdv d (ctD (ctD s 1) 7)]) (L2 := [ansP m F w bg r, iar (F 5) 260 pd]) rfl rdv_O 1 rfl dX15_looks_57 rfl cv_X15_215 (k_X12_tells (s := (ctD (ctD s 1) 7)) (e := (130 + (cfM (dB s 0) + if dB s 2 then 16 else 0))) (by exact (okE_ln he).2.1)) rfl rfl (Nat.le_of_ble_eq_true rfl) ⟨by decide, by omega, by omega⟩ (fun r1 L1 h q hL => ?_)
          obtain ⟨rfl, rfl⟩ := q
          have hL : stars [rdv d (evD (ctD (ctD s 1) 7) (130 + (cfM (dB s 0) + if dB s 2 then 16 else 0))), ansP m F w bg r, iar (F 5) 260 pd] h := hL
          have hL : stars [ansP m F w bg r, rdv d (evD (ctD (ctD s 1) 7) (130 + (cfM (dB s 0) + if dB s 2 then 16 else 0))), iar (F 5) 260 pd] h := stars_ixn hL 3 rfl [1, 0, 2] (by decide) rfl
          exact e_vret dX15_looks_60 rfl (by omega) (by omega) (⟨_, ⟨rfl, _, _, rfl⟩, by rw [cf_bad k4]; rw [show dB s 2 = true from k16] at hL ⊢; exact hL⟩)
      · have k33 := jb_eq_f c33
        refine e_bipush 38 (v := (nI 16)) dX15_looks_36 rfl (by decide) ?_
        refine e_goto 42 dX15_looks_38 rfl ?_
        refine e_iadd 43 (v := (nI (130 + 16))) dX15_looks_42 rfl (nI_add 130 16) ?_
        refine e_aload_n 44 dX15_looks_43 rfl rfl ?_
        refine e_get 47 (v := (.int (bI (dB s 0)))) dX15_looks_44 rfl fl_X15_211_10 v30_0 rfl ?_
        refine e_if_eq 55 50 dX15_looks_47 rfl rfl (fun c47 => ?_) (fun c47 => ?_)
        · have k47 := jb_eq_t c47
          refine e_iconst 56 (v := (nI 0)) dX15_looks_55 rfl (by decide) ?_
          refine e_iadd 57 (v := (nI ((130 + 16) + 0))) dX15_looks_56 rfl (nI_add (130 + 16) 0) ?_
          refine e_top (v' := (nI (130 + (cfM (dB s 0) + if dB s 2 then 16 else 0)))) (congrArg nI (show ((130 + 16) + 0) = (130 + (cfM (dB s 0) + if dB s 2 then 16 else 0)) by rw [show dB s 2 = true from k33, show dB s 0 = false from k47]; decide)) ?_
          refine p_callV 60 hL [1, 0, 2] 3 rfl (by decide) (L1 := [rdv d (ctD (ctD s 1) 7)]) (L2 := [ansP m F w bg r, iar (F 5) 260 pd]) rfl rdv_O 1 rfl dX15_looks_57 rfl cv_X15_215 (k_X12_tells (s := (ctD (ctD s 1) 7)) (e := (130 + (cfM (dB s 0) + if dB s 2 then 16 else 0))) (by exact (okE_ln he).2.1)) rfl rfl (Nat.le_of_ble_eq_true rfl) ⟨by decide, by omega, by omega⟩ (fun r1 L1 h q hL => ?_)
          obtain ⟨rfl, rfl⟩ := q
          have hL : stars [rdv d (evD (ctD (ctD s 1) 7) (130 + (cfM (dB s 0) + if dB s 2 then 16 else 0))), ansP m F w bg r, iar (F 5) 260 pd] h := hL
          have hL : stars [ansP m F w bg r, rdv d (evD (ctD (ctD s 1) 7) (130 + (cfM (dB s 0) + if dB s 2 then 16 else 0))), iar (F 5) 260 pd] h := stars_ixn hL 3 rfl [1, 0, 2] (by decide) rfl
          exact e_vret dX15_looks_60 rfl (by omega) (by omega) (⟨_, ⟨rfl, _, _, rfl⟩, by rw [cf_bad k4]; rw [show dB s 2 = true from k16] at hL ⊢; exact hL⟩)
        · have k47 := jb_eq_f c47
          refine e_bipush 52 (v := (nI 32)) dX15_looks_50 rfl (by decide) ?_
          refine e_goto 56 dX15_looks_52 rfl ?_
          refine e_iadd 57 (v := (nI ((130 + 16) + 32))) dX15_looks_56 rfl (nI_add (130 + 16) 32) ?_
          refine e_top (v' := (nI (130 + (cfM (dB s 0) + if dB s 2 then 16 else 0)))) (congrArg nI (show ((130 + 16) + 32) = (130 + (cfM (dB s 0) + if dB s 2 then 16 else 0)) by rw [show dB s 2 = true from k33, show dB s 0 = true from k47]; decide)) ?_
          refine p_callV 60 hL [1, 0, 2] 3 rfl (by decide) (L1 := [rdv d (ctD (ctD s 1) 7)]) (L2 := [ansP m F w bg r, iar (F 5) 260 pd]) rfl rdv_O 1 rfl dX15_looks_57 rfl cv_X15_215 (k_X12_tells (s := (ctD (ctD s 1) 7)) (e := (130 + (cfM (dB s 0) + if dB s 2 then 16 else 0))) (by exact (okE_ln he).2.1)) rfl rfl (Nat.le_of_ble_eq_true rfl) ⟨by decide, by omega, by omega⟩ (fun r1 L1 h q hL => ?_)
          obtain ⟨rfl, rfl⟩ := q
          have hL : stars [rdv d (evD (ctD (ctD s 1) 7) (130 + (cfM (dB s 0) + if dB s 2 then 16 else 0))), ansP m F w bg r, iar (F 5) 260 pd] h := hL
          have hL : stars [ansP m F w bg r, rdv d (evD (ctD (ctD s 1) 7) (130 + (cfM (dB s 0) + if dB s 2 then 16 else 0))), iar (F 5) 260 pd] h := stars_ixn hL 3 rfl [1, 0, 2] (by decide) rfl
          exact e_vret dX15_looks_60 rfl (by omega) (by omega) (⟨_, ⟨rfl, _, _, rfl⟩, by rw [cf_bad k4]; rw [show dB s 2 = true from k16] at hL ⊢; exact hL⟩)
