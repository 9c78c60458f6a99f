/-! the reference: rules -/
set_option maxRecDepth 20000 in
set_option maxHeartbeats 2000000 in
theorem k_X15_obeys_ {d kd a b c : Nat} {s : DS} (he : okE s) (hb : ∀ k, ∀ x ∈ dL s k, x < 65536) (hkd : kd < 7) (ha : a < 65536) (hb2 : b < 65536) (hc : c < 65536) : CA mX15_obeys_ [.ref d, .int (nI kd), .int (nI a), .int (nI b), .int (nI c)] [rdv d s] (fun x9 K => x9 = none ∧ K = [rdv d (obD s kd a b c)]) 2 48 0 0 := by
  refine CA.mk 3 (ls := [some (.ref d), some (.int (nI kd)), some (.int (nI a)), some (.int (nI b)), some (.int (nI c)), none, none, none]) rfl rfl (Nat.le_of_ble_eq_true rfl) rfl (fun h hL => ?_)
  have hs4 := shO_le (okE_sh he).2.1
  refine e_aload_n 1 dX15_obeys__0 rfl rfl ?_
  refine e_iconst 2 (v := (nI 3)) dX15_obeys__1 rfl (by decide) ?_
  refine e_iload_n 3 dX15_obeys__2 rfl rfl ?_
  refine e_iconst 4 (v := (nI 1)) dX15_obeys__3 rfl (by decide) ?_
  have hv4 := rdv_V _ 0 hL rfl
  obtain ⟨A4, o4, -⟩ := id hv4
  refine u_callV 7 dX15_obeys__4 rfl cv_X15_107 o4 (u_X12_has hv4 he (by decide) (by omega) (by omega)) rfl rfl (Nat.le_of_ble_eq_true rfl) (by decide) ⟨by omega, by omega⟩ ?_
  refine e_istore 9 (ls' := [some (.ref d), some (.int (nI kd)), some (.int (nI a)), some (.int (nI b)), some (.int (nI c)), some (.int (bI (plZ s 3 a 1))), none, none]) dX15_obeys__7 rfl (by decide) rfl ?_
  refine e_iload_n 10 dX15_obeys__9 rfl rfl ?_
  rcases (show (5 < kd) ∨ (kd = 0) ∨ (kd = 1) ∨ (kd = 2) ∨ (kd = 3) ∨ (kd = 4) ∨ (kd = 5) by omega) with s10 | s10 | s10 | s10 | s10 | s10 | s10
  · refine e_tableOut 305 dX15_obeys__10 (by rw [nI_toInt (by omega)]; omega) rfl ?_
    refine e_aload_n 306 dX15_obeys__305 rfl rfl ?_
    refine e_iload_n 307 dX15_obeys__306 rfl rfl ?_
    have hv307 := rdv_V _ 0 hL rfl
    obtain ⟨A307, o307, -⟩ := id hv307
    refine u_callV 310 dX15_obeys__307 rfl cv_X15_127 o307 (u_X12_queueOf hv307 he) rfl rfl (Nat.le_of_ble_eq_true rfl) (by decide) ⟨by omega, by omega⟩ ?_
    rcases hx307 : ixM (dS s 1) (nI b) with _ | i307
    · have n307 := hx307
      refine e_istore 312 (ls' := [some (.ref d), some (.int (nI kd)), some (.int (nI a)), some (.int (nI b)), some (.int (nI c)), some (.int (bI (plZ s 3 a 1))), some (.int (-1)), none]) dX15_obeys__310 rfl (by decide) rfl ?_
      refine e_iload 314 dX15_obeys__312 rfl rfl ?_
      refine e_if_eq 357 317 dX15_obeys__314 rfl rfl (fun c314 => ?_) (fun c314 => ?_)
      · have k314 := jb_eq_t c314
        exact e_vret dX15_obeys__357 rfl (by omega) (by omega) (⟨_, ⟨rfl, rfl⟩, by have g9 : (dL s 0).getD (c - dF s 0) 0 < 65536 := gd_lt (hb 0) (by decide); rw [ob_6n (by omega) (by omega) (by omega) g9 (Or.inl k314)]; exact hL⟩)
      · have k314 := jb_eq_f c314
        refine e_iload 319 dX15_obeys__317 rfl rfl ?_
        refine e_iconst 320 (v := (-1)) dX15_obeys__319 rfl (by decide) ?_
        refine e_icmp_eq 357 323 dX15_obeys__320 rfl rfl (fun c320 => ?_) (fun c320 => absurd c320 (fun z => z rfl))
        exact e_vret dX15_obeys__357 rfl (by omega) (by omega) (⟨_, ⟨rfl, rfl⟩, by have g9 : (dL s 0).getD (c - dF s 0) 0 < 65536 := gd_lt (hb 0) (by decide); rw [ob_6n (by omega) (by omega) (by omega) g9 (Or.inr (Or.inl n307))]; exact hL⟩)
    · have l307 := ixM_lt hx307
      refine e_istore 312 (ls' := [some (.ref d), some (.int (nI kd)), some (.int (nI a)), some (.int (nI b)), some (.int (nI c)), some (.int (bI (plZ s 3 a 1))), some (.int (nI i307)), none]) dX15_obeys__310 rfl (by decide) rfl ?_
      refine e_iload 314 dX15_obeys__312 rfl rfl ?_
      refine e_if_eq 357 317 dX15_obeys__314 rfl rfl (fun c314 => ?_) (fun c314 => ?_)
      · have k314 := jb_eq_t c314
        exact e_vret dX15_obeys__357 rfl (by omega) (by omega) (⟨_, ⟨rfl, rfl⟩, by have g9 : (dL s 0).getD (c - dF s 0) 0 < 65536 := gd_lt (hb 0) (by decide); rw [ob_6n (by omega) (by omega) (by omega) g9 (Or.inl k314)]; exact hL⟩)
      · have k314 := jb_eq_f c314
        refine e_iload 319 dX15_obeys__317 rfl rfl ?_
        refine e_iconst 320 (v := (-1)) dX15_obeys__319 rfl (by decide) ?_
        refine e_icmp_eq 357 323 dX15_obeys__320 rfl rfl (fun c320 => absurd c320 (nI_ne_m1 (by omega))) (fun c320 => ?_)
        refine e_aload_n 324 dX15_obeys__323 rfl rfl ?_
        refine e_iconst 325 (v := (nI 0)) dX15_obeys__324 rfl (by decide) ?_
        refine e_iload 327 dX15_obeys__325 rfl rfl ?_
        refine e_iconst 328 (v := (nI 1)) dX15_obeys__327 rfl (by decide) ?_
        have hv328 := rdv_V _ 0 hL rfl
        obtain ⟨A328, o328, -⟩ := id hv328
        refine u_callV 331 dX15_obeys__328 rfl cv_X15_107 o328 (u_X12_has hv328 he (by decide) (by omega) (by omega)) rfl rfl (Nat.le_of_ble_eq_true rfl) (by decide) ⟨by omega, by omega⟩ ?_
        refine e_if_eq 357 334 dX15_obeys__331 rfl rfl (fun c331 => ?_) (fun c331 => ?_)
        · have k331 := jb_eq_t c331
          exact e_vret dX15_obeys__357 rfl (by omega) (by omega) (⟨_, ⟨rfl, rfl⟩, by have g9 : (dL s 0).getD (c - dF s 0) 0 < 65536 := gd_lt (hb 0) (by decide); rw [ob_6n (by omega) (by omega) (by omega) g9 (Or.inr (Or.inr (Or.inl k331)))]; exact hL⟩)
        · have k331 := jb_eq_f c331
          refine e_aload_n 335 dX15_obeys__334 rfl rfl ?_
          refine e_iconst 336 (v := (nI 0)) dX15_obeys__335 rfl (by decide) ?_
          refine e_iload 338 dX15_obeys__336 rfl rfl ?_
          have hv338 := rdv_V _ 0 hL rfl
          obtain ⟨A338, o338, -⟩ := id hv338
          have g338 : (dL s 0).getD (c - dF s 0) 0 < 65536 := gd_lt (hb 0) (by decide)
          refine u_callV 341 dX15_obeys__338 rfl cv_X15_137 o338 (u_X12_get hv338 he (by decide) (plZ_1 k331)) rfl rfl (Nat.le_of_ble_eq_true rfl) (by decide) ⟨by omega, by omega⟩ ?_
          refine e_iconst 342 (v := (nI 1)) dX15_obeys__341 rfl (by decide) ?_
          refine e_icmp_ne 357 345 dX15_obeys__342 rfl rfl (fun c342 => ?_) (fun c342 => ?_)
          · have k342 := j_ne_t (a := ((dL s 0).getD (c - dF s 0) 0)) (b := 1) (by omega) (by omega) c342
            exact e_vret dX15_obeys__357 rfl (by omega) (by omega) (⟨_, ⟨rfl, rfl⟩, by have g9 : (dL s 0).getD (c - dF s 0) 0 < 65536 := gd_lt (hb 0) (by decide); rw [ob_6n (by omega) (by omega) (by omega) g9 (Or.inr (Or.inr (Or.inr k342)))]; exact hL⟩)
          · have k342 := j_ne_f (a := ((dL s 0).getD (c - dF s 0) 0)) (b := 1) (by omega) (by omega) c342
            refine e_aload_n 346 dX15_obeys__345 rfl rfl ?_
            refine e_iload 348 dX15_obeys__346 rfl rfl ?_
            refine e_aload_n 349 dX15_obeys__348 rfl rfl ?_
            refine e_iconst 350 (v := (nI 3)) dX15_obeys__349 rfl (by decide) ?_
            refine e_iload_n 351 dX15_obeys__350 rfl rfl ?_
            have hv351 := rdv_V _ 0 hL rfl
            obtain ⟨A351, o351, -⟩ := id hv351
            have g351 : (dL s 3).getD (a - dF s 3) 0 < 65536 := gd_lt (hb 3) (by decide)
            refine u_callV 354 dX15_obeys__351 rfl cv_X15_137 o351 (u_X12_get hv351 he (by decide) (plZ_1 k314)) rfl rfl (Nat.le_of_ble_eq_true rfl) (by decide) ⟨by omega, by omega⟩ ?_
            refine p_callV 357 hL [0] 1 rfl (by decide) (L1 := [rdv d s]) (L2 := []) rfl rdv_O 0 rfl dX15_obeys__354 rfl cv_X15_285 (k_X12_comesInto he l307) rfl rfl (Nat.le_of_ble_eq_true rfl) ⟨by decide, by omega, by omega⟩ (fun r1 L1 h q hL => ?_)
            obtain ⟨rfl, rfl⟩ := q
            have hL : stars [rdv d (quD s i307 ((dL s 3).getD (a - dF s 3) 0))] h := hL
            exact e_vret dX15_obeys__357 rfl (by omega) (by omega) (⟨_, ⟨rfl, rfl⟩, by rw [ob_6 (by omega) (by omega) (by omega) g338 k314 k331 k342 hx307]; exact hL⟩)
  · refine e_tableIn 48 (off := 38) dX15_obeys__10 (by rw [nI_toInt (by omega)]; omega) (by rw [nI_toInt (by omega)]; omega) (by rw [s10]; decide) rfl ?_
    refine e_iload 50 dX15_obeys__48 rfl rfl ?_
    refine e_if_eq 71 53 dX15_obeys__50 rfl rfl (fun c50 => ?_) (fun c50 => ?_)
    · have k50 := jb_eq_t c50
      exact e_vret dX15_obeys__71 rfl (by omega) (by omega) (⟨_, ⟨rfl, rfl⟩, by rw [s10]; rw [ob_0n (by omega) k50]; exact hL⟩)
    · have k50 := jb_eq_f c50
      refine e_aload_n 54 dX15_obeys__53 rfl rfl ?_
      refine e_iconst 55 (v := (nI 3)) dX15_obeys__54 rfl (by decide) ?_
      refine e_iload_n 56 dX15_obeys__55 rfl rfl ?_
      refine e_aload_n 57 dX15_obeys__56 rfl rfl ?_
      refine e_iconst 58 (v := (nI 3)) dX15_obeys__57 rfl (by decide) ?_
      refine e_iload_n 59 dX15_obeys__58 rfl rfl ?_
      have hv59 := rdv_V _ 0 hL rfl
      obtain ⟨A59, o59, -⟩ := id hv59
      have g59 : (dL s 3).getD (a - dF s 3) 0 < 65536 := gd_lt (hb 3) (by decide)
      refine u_callV 62 dX15_obeys__59 rfl cv_X15_137 o59 (u_X12_get hv59 he (by decide) (plZ_1 k50)) rfl rfl (Nat.le_of_ble_eq_true rfl) (by decide) ⟨by omega, by omega⟩ ?_
      refine e_iload_n 63 dX15_obeys__62 rfl rfl ?_
      refine e_iadd 64 (v := (nI (((dL s 3).getD (a - dF s 3) 0) + b))) dX15_obeys__63 rfl (nI_add ((dL s 3).getD (a - dF s 3) 0) b) ?_
      refine e_ldcw 67 (v := (nI 65536)) dX15_obeys__64 rfl cn_X15_281 ?_
      refine e_irem 68 (v := (nI ((((dL s 3).getD (a - dF s 3) 0) + b) % 65536))) dX15_obeys__67 rfl (by decide) (pk_rem (by omega) (by decide) (by decide)) ?_
      refine p_callV 71 hL [0] 1 rfl (by decide) (L1 := [rdv d s]) (L2 := []) rfl rdv_O 0 rfl dX15_obeys__68 rfl cv_X15_164 (k_X12_put (s := s) (k := 3) (okE_pl he (k := 3) (by decide)) (by decide) (plZ_1 k50)) rfl rfl (Nat.le_of_ble_eq_true rfl) ⟨by decide, by omega, by omega⟩ (fun r1 L1 h q hL => ?_)
      obtain ⟨rfl, rfl⟩ := q
      have hL : stars [rdv d (puD s 3 (a - dF s 3) ((((dL s 3).getD (a - dF s 3) 0) + b) % 65536))] h := hL
      exact e_vret dX15_obeys__71 rfl (by omega) (by omega) (⟨_, ⟨rfl, rfl⟩, by rw [s10]; rw [ob_0 (by omega) (by omega) g59 k50]; exact hL⟩)
  · refine e_tableIn 72 (off := 62) dX15_obeys__10 (by rw [nI_toInt (by omega)]; omega) (by rw [nI_toInt (by omega)]; omega) (by rw [s10]; decide) rfl ?_
    refine e_iload 74 dX15_obeys__72 rfl rfl ?_
    refine e_if_eq 99 77 dX15_obeys__74 rfl rfl (fun c74 => ?_) (fun c74 => ?_)
    · have k74 := jb_eq_t c74
      exact e_vret dX15_obeys__99 rfl (by omega) (by omega) (⟨_, ⟨rfl, rfl⟩, by rw [s10]; rw [ob_1n (by omega) (by omega) (Or.inl k74)]; exact hL⟩)
    · have k74 := jb_eq_f c74
      refine e_aload_n 78 dX15_obeys__77 rfl rfl ?_
      refine e_iconst 79 (v := (nI 2)) dX15_obeys__78 rfl (by decide) ?_
      refine e_iload_n 80 dX15_obeys__79 rfl rfl ?_
      refine e_iconst 81 (v := (nI 1)) dX15_obeys__80 rfl (by decide) ?_
      have hv81 := rdv_V _ 0 hL rfl
      obtain ⟨A81, o81, -⟩ := id hv81
      refine u_callV 84 dX15_obeys__81 rfl cv_X15_107 o81 (u_X12_has hv81 he (by decide) (by omega) (by omega)) rfl rfl (Nat.le_of_ble_eq_true rfl) (by decide) ⟨by omega, by omega⟩ ?_
      refine e_if_eq 99 87 dX15_obeys__84 rfl rfl (fun c84 => ?_) (fun c84 => ?_)
      · have k84 := jb_eq_t c84
        exact e_vret dX15_obeys__99 rfl (by omega) (by omega) (⟨_, ⟨rfl, rfl⟩, by rw [s10]; rw [ob_1n (by omega) (by omega) (Or.inr k84)]; exact hL⟩)
      · have k84 := jb_eq_f c84
        refine e_aload_n 88 dX15_obeys__87 rfl rfl ?_
        refine e_iconst 89 (v := (nI 3)) dX15_obeys__88 rfl (by decide) ?_
        refine e_iload_n 90 dX15_obeys__89 rfl rfl ?_
        refine e_aload_n 91 dX15_obeys__90 rfl rfl ?_
        refine e_iconst 92 (v := (nI 2)) dX15_obeys__91 rfl (by decide) ?_
        refine e_iload_n 93 dX15_obeys__92 rfl rfl ?_
        have hv93 := rdv_V _ 0 hL rfl
        obtain ⟨A93, o93, -⟩ := id hv93
        have g93 : (dL s 2).getD (b - dF s 2) 0 < 65536 := gd_lt (hb 2) (by decide)
        refine u_callV 96 dX15_obeys__93 rfl cv_X15_137 o93 (u_X12_get hv93 he (by decide) (plZ_1 k84)) rfl rfl (Nat.le_of_ble_eq_true rfl) (by decide) ⟨by omega, by omega⟩ ?_
        refine p_callV 99 hL [0] 1 rfl (by decide) (L1 := [rdv d s]) (L2 := []) rfl rdv_O 0 rfl dX15_obeys__96 rfl cv_X15_164 (k_X12_put (s := s) (k := 3) (okE_pl he (k := 3) (by decide)) (by decide) (plZ_1 k74)) rfl rfl (Nat.le_of_ble_eq_true rfl) ⟨by decide, by omega, by omega⟩ (fun r1 L1 h q hL => ?_)
        obtain ⟨rfl, rfl⟩ := q
        have hL : stars [rdv d (puD s 3 (a - dF s 3) ((dL s 2).getD (b - dF s 2) 0))] h := hL
        exact e_vret dX15_obeys__99 rfl (by omega) (by omega) (⟨_, ⟨rfl, rfl⟩, by rw [s10]; rw [ob_1 (by omega) (by omega) g93 k74 k84]; exact hL⟩)
  · refine e_tableIn 100 (off := 90) dX15_obeys__10 (by rw [nI_toInt (by omega)]; omega) (by rw [nI_toInt (by omega)]; omega) (by rw [s10]; decide) rfl ?_
    refine e_iload 102 dX15_obeys__100 rfl rfl ?_
    refine e_if_eq 167 105 dX15_obeys__102 rfl rfl (fun c102 => ?_) (fun c102 => ?_)
    · have k102 := jb_eq_t c102
      exact e_vret dX15_obeys__167 rfl (by omega) (by omega) (⟨_, ⟨rfl, rfl⟩, by rw [s10]; rw [ob_2n (by omega) (by omega) (Or.inl k102)]; exact hL⟩)
    · have k102 := jb_eq_f c102
      refine e_aload_n 106 dX15_obeys__105 rfl rfl ?_
      refine e_iconst 107 (v := (nI 2)) dX15_obeys__106 rfl (by decide) ?_
      refine e_iload_n 108 dX15_obeys__107 rfl rfl ?_
      refine e_iconst 109 (v := (nI 1)) dX15_obeys__108 rfl (by decide) ?_
      have hv109 := rdv_V _ 0 hL rfl
      obtain ⟨A109, o109, -⟩ := id hv109
      refine u_callV 112 dX15_obeys__109 rfl cv_X15_107 o109 (u_X12_has hv109 he (by decide) (by omega) (by omega)) rfl rfl (Nat.le_of_ble_eq_true rfl) (by decide) ⟨by omega, by omega⟩ ?_
      refine e_if_eq 167 115 dX15_obeys__112 rfl rfl (fun c112 => ?_) (fun c112 => ?_)
      · have k112 := jb_eq_t c112
        exact e_vret dX15_obeys__167 rfl (by omega) (by omega) (⟨_, ⟨rfl, rfl⟩, by rw [s10]; rw [ob_2n (by omega) (by omega) (Or.inr k112)]; exact hL⟩)
      · have k112 := jb_eq_f c112
        refine e_aload_n 116 dX15_obeys__115 rfl rfl ?_
        refine e_iconst 117 (v := (nI 3)) dX15_obeys__116 rfl (by decide) ?_
        refine e_iload_n 118 dX15_obeys__117 rfl rfl ?_
        have hv118 := rdv_V _ 0 hL rfl
        obtain ⟨A118, o118, -⟩ := id hv118
        have g118 : (dL s 3).getD (a - dF s 3) 0 < 65536 := gd_lt (hb 3) (by decide)
        refine u_callV 121 dX15_obeys__118 rfl cv_X15_137 o118 (u_X12_get hv118 he (by decide) (plZ_1 k102)) rfl rfl (Nat.le_of_ble_eq_true rfl) (by decide) ⟨by omega, by omega⟩ ?_
        refine e_istore 123 (ls' := [some (.ref d), some (.int (nI kd)), some (.int (nI a)), some (.int (nI b)), some (.int (nI c)), some (.int (bI (plZ s 3 a 1))), some (.int (nI ((dL s 3).getD (a - dF s 3) 0))), none]) dX15_obeys__121 rfl (by decide) rfl ?_
        refine e_aload_n 124 dX15_obeys__123 rfl rfl ?_
        refine e_iconst 125 (v := (nI 2)) dX15_obeys__124 rfl (by decide) ?_
        refine e_iload_n 126 dX15_obeys__125 rfl rfl ?_
        have hv126 := rdv_V _ 0 hL rfl
        obtain ⟨A126, o126, -⟩ := id hv126
        have g126 : (dL s 2).getD (b - dF s 2) 0 < 65536 := gd_lt (hb 2) (by decide)
        refine u_callV 129 dX15_obeys__126 rfl cv_X15_137 o126 (u_X12_get hv126 he (by decide) (plZ_1 k112)) rfl rfl (Nat.le_of_ble_eq_true rfl) (by decide) ⟨by omega, by omega⟩ ?_
        refine e_istore 131 (ls' := [some (.ref d), some (.int (nI kd)), some (.int (nI a)), some (.int (nI b)), some (.int (nI c)), some (.int (bI (plZ s 3 a 1))), some (.int (nI ((dL s 3).getD (a - dF s 3) 0))), some (.int (nI ((dL s 2).getD (b - dF s 2) 0)))]) dX15_obeys__129 rfl (by decide) rfl ?_
        refine e_aload_n 132 dX15_obeys__131 rfl rfl ?_
        refine e_iconst 133 (v := (nI 3)) dX15_obeys__132 rfl (by decide) ?_
        refine e_iload_n 134 dX15_obeys__133 rfl rfl ?_
        refine e_iload 136 dX15_obeys__134 rfl rfl ?_
        refine e_iload 138 dX15_obeys__136 rfl rfl ?_
        refine e_icmp_le 154 141 dX15_obeys__138 rfl rfl (fun c138 => ?_) (fun c138 => ?_)
        · have k138 := j_le_t (a := ((dL s 2).getD (b - dF s 2) 0)) (b := ((dL s 3).getD (a - dF s 3) 0)) (by omega) (by omega) c138
          refine e_iload 156 dX15_obeys__154 rfl rfl ?_
          refine e_iload 158 dX15_obeys__156 rfl rfl ?_
          refine e_iload 160 dX15_obeys__158 rfl rfl ?_
          refine e_isub 161 (v := ((nI ((dL s 3).getD (a - dF s 3) 0)) - (nI c))) dX15_obeys__160 rfl rfl ?_
          refine e_max 164 (v := (nI (max ((dL s 3).getD (a - dF s 3) 0 - c) ((dL s 2).getD (b - dF s 2) 0)))) dX15_obeys__161 rfl ma_X15_227 (by decide) (Nat.le_of_ble_eq_true rfl) (by omega) (max_subI2 (by omega) (by omega) (by omega)) ?_
          refine e_top (v' := (nI (near ((dL s 3).getD (a - dF s 3) 0) ((dL s 2).getD (b - dF s 2) 0) c))) (congrArg nI (show (max ((dL s 3).getD (a - dF s 3) 0 - c) ((dL s 2).getD (b - dF s 2) 0)) = near ((dL s 3).getD (a - dF s 3) 0) ((dL s 2).getD (b - dF s 2) 0) c by rw [near, if_neg (by omega)])) ?_
          refine p_callV 167 hL [0] 1 rfl (by decide) (L1 := [rdv d s]) (L2 := []) rfl rdv_O 0 rfl dX15_obeys__164 rfl cv_X15_164 (k_X12_put (s := s) (k := 3) (okE_pl he (k := 3) (by decide)) (by decide) (plZ_1 k102)) rfl rfl (Nat.le_of_ble_eq_true rfl) ⟨by decide, by omega, by omega⟩ (fun r1 L1 h q hL => ?_)
          obtain ⟨rfl, rfl⟩ := q
          have hL : stars [rdv d (puD s 3 (a - dF s 3) (near ((dL s 3).getD (a - dF s 3) 0) ((dL s 2).getD (b - dF s 2) 0) c))] h := hL
          exact e_vret dX15_obeys__167 rfl (by omega) (by omega) (⟨_, ⟨rfl, rfl⟩, by rw [s10]; rw [ob_2 (by omega) (by omega) g118 g126 k102 k112]; exact hL⟩)
        · have k138 := j_le_f (a := ((dL s 2).getD (b - dF s 2) 0)) (b := ((dL s 3).getD (a - dF s 3) 0)) (by omega) (by omega) c138
          refine e_iload 143 dX15_obeys__141 rfl rfl ?_
          refine e_iload 145 dX15_obeys__143 rfl rfl ?_
          refine e_iload 147 dX15_obeys__145 rfl rfl ?_
          refine e_iadd 148 (v := (nI (((dL s 3).getD (a - dF s 3) 0) + c))) dX15_obeys__147 rfl (nI_add ((dL s 3).getD (a - dF s 3) 0) c) ?_
          refine e_min 151 (v := (nI (min ((dL s 2).getD (b - dF s 2) 0) ((dL s 3).getD (a - dF s 3) 0 + c)))) dX15_obeys__148 rfl mi_X15_282 (by decide) (Nat.le_of_ble_eq_true rfl) (by omega) (min_nI (by omega) (by omega)) ?_
          refine e_goto 164 dX15_obeys__151 rfl ?_
          refine e_top (v' := (nI (near ((dL s 3).getD (a - dF s 3) 0) ((dL s 2).getD (b - dF s 2) 0) c))) (congrArg nI (show (min ((dL s 2).getD (b - dF s 2) 0) ((dL s 3).getD (a - dF s 3) 0 + c)) = near ((dL s 3).getD (a - dF s 3) 0) ((dL s 2).getD (b - dF s 2) 0) c by rw [near, if_pos (by omega), Nat.min_comm])) ?_
          refine p_callV 167 hL [0] 1 rfl (by decide) (L1 := [rdv d s]) (L2 := []) rfl rdv_O 0 rfl dX15_obeys__164 rfl cv_X15_164 (k_X12_put (s := s) (k := 3) (okE_pl he (k := 3) (by decide)) (by decide) (plZ_1 k102)) rfl rfl (Nat.le_of_ble_eq_true rfl) ⟨by decide, by omega, by omega⟩ (fun r1 L1 h q hL => ?_)
          obtain ⟨rfl, rfl⟩ := q
          have hL : stars [rdv d (puD s 3 (a - dF s 3) (near ((dL s 3).getD (a - dF s 3) 0) ((dL s 2).getD (b - dF s 2) 0) c))] h := hL
          exact e_vret dX15_obeys__167 rfl (by omega) (by omega) (⟨_, ⟨rfl, rfl⟩, by rw [s10]; rw [ob_2 (by omega) (by omega) g118 g126 k102 k112]; exact hL⟩)
  · refine e_tableIn 168 (off := 158) dX15_obeys__10 (by rw [nI_toInt (by omega)]; omega) (by rw [nI_toInt (by omega)]; omega) (by rw [s10]; decide) rfl ?_
    refine e_iload 170 dX15_obeys__168 rfl rfl ?_
    refine e_if_eq 221 173 dX15_obeys__170 rfl rfl (fun c170 => ?_) (fun c170 => ?_)
    · have k170 := jb_eq_t c170
      exact e_vret dX15_obeys__221 rfl (by omega) (by omega) (⟨_, ⟨rfl, rfl⟩, by rw [s10]; rw [ob_3n (by omega) (by omega) (by omega) (Or.inl k170)]; exact hL⟩)
    · have k170 := jb_eq_f c170
      refine e_aload_n 174 dX15_obeys__173 rfl rfl ?_
      refine e_iconst 175 (v := (nI 2)) dX15_obeys__174 rfl (by decide) ?_
      refine e_iload_n 176 dX15_obeys__175 rfl rfl ?_
      refine e_iconst 177 (v := (nI 1)) dX15_obeys__176 rfl (by decide) ?_
      have hv177 := rdv_V _ 0 hL rfl
      obtain ⟨A177, o177, -⟩ := id hv177
      refine u_callV 180 dX15_obeys__177 rfl cv_X15_107 o177 (u_X12_has hv177 he (by decide) (by omega) (by omega)) rfl rfl (Nat.le_of_ble_eq_true rfl) (by decide) ⟨by omega, by omega⟩ ?_
      refine e_if_eq 221 183 dX15_obeys__180 rfl rfl (fun c180 => ?_) (fun c180 => ?_)
      · have k180 := jb_eq_t c180
        exact e_vret dX15_obeys__221 rfl (by omega) (by omega) (⟨_, ⟨rfl, rfl⟩, by rw [s10]; rw [ob_3n (by omega) (by omega) (by omega) (Or.inr (Or.inl k180))]; exact hL⟩)
      · have k180 := jb_eq_f c180
        refine e_aload_n 184 dX15_obeys__183 rfl rfl ?_
        refine e_iconst 185 (v := (nI 1)) dX15_obeys__184 rfl (by decide) ?_
        refine e_iload 187 dX15_obeys__185 rfl rfl ?_
        refine e_iconst 188 (v := (nI 1)) dX15_obeys__187 rfl (by decide) ?_
        have hv188 := rdv_V _ 0 hL rfl
        obtain ⟨A188, o188, -⟩ := id hv188
        refine u_callV 191 dX15_obeys__188 rfl cv_X15_107 o188 (u_X12_has hv188 he (by decide) (by omega) (by omega)) rfl rfl (Nat.le_of_ble_eq_true rfl) (by decide) ⟨by omega, by omega⟩ ?_
        refine e_if_eq 221 194 dX15_obeys__191 rfl rfl (fun c191 => ?_) (fun c191 => ?_)
        · have k191 := jb_eq_t c191
          exact e_vret dX15_obeys__221 rfl (by omega) (by omega) (⟨_, ⟨rfl, rfl⟩, by rw [s10]; rw [ob_3n (by omega) (by omega) (by omega) (Or.inr (Or.inr k191))]; exact hL⟩)
        · have k191 := jb_eq_f c191
          refine e_aload_n 195 dX15_obeys__194 rfl rfl ?_
          refine e_iconst 196 (v := (nI 1)) dX15_obeys__195 rfl (by decide) ?_
          refine e_iload 198 dX15_obeys__196 rfl rfl ?_
          refine e_aload_n 199 dX15_obeys__198 rfl rfl ?_
          refine e_iconst 200 (v := (nI 3)) dX15_obeys__199 rfl (by decide) ?_
          refine e_iload_n 201 dX15_obeys__200 rfl rfl ?_
          have hv201 := rdv_V _ 0 hL rfl
          obtain ⟨A201, o201, -⟩ := id hv201
          have g201 : (dL s 3).getD (a - dF s 3) 0 < 65536 := gd_lt (hb 3) (by decide)
          refine u_callV 204 dX15_obeys__201 rfl cv_X15_137 o201 (u_X12_get hv201 he (by decide) (plZ_1 k170)) rfl rfl (Nat.le_of_ble_eq_true rfl) (by decide) ⟨by omega, by omega⟩ ?_
          refine e_aload_n 205 dX15_obeys__204 rfl rfl ?_
          refine e_iconst 206 (v := (nI 2)) dX15_obeys__205 rfl (by decide) ?_
          refine e_iload_n 207 dX15_obeys__206 rfl rfl ?_
          have hv207 := rdv_V _ 0 hL rfl
          obtain ⟨A207, o207, -⟩ := id hv207
          have g207 : (dL s 2).getD (b - dF s 2) 0 < 65536 := gd_lt (hb 2) (by decide)
          refine u_callV 210 dX15_obeys__207 rfl cv_X15_137 o207 (u_X12_get hv207 he (by decide) (plZ_1 k180)) rfl rfl (Nat.le_of_ble_eq_true rfl) (by decide) ⟨by omega, by omega⟩ ?_
          refine e_icmp_le 217 213 dX15_obeys__210 rfl rfl (fun c210 => ?_) (fun c210 => ?_)
          · have k210 := j_le_t (a := ((dL s 3).getD (a - dF s 3) 0)) (b := ((dL s 2).getD (b - dF s 2) 0)) (by omega) (by omega) c210
            refine e_iconst 218 (v := (nI 0)) dX15_obeys__217 rfl (by decide) ?_
            refine e_top (v' := (nI (if (dL s 2).getD (b - dF s 2) 0 < (dL s 3).getD (a - dF s 3) 0 then 1 else 0))) (congrArg nI (show 0 = (if (dL s 2).getD (b - dF s 2) 0 < (dL s 3).getD (a - dF s 3) 0 then 1 else 0) by rw [if_neg (by omega)])) ?_
            refine p_callV 221 hL [0] 1 rfl (by decide) (L1 := [rdv d s]) (L2 := []) rfl rdv_O 0 rfl dX15_obeys__218 rfl cv_X15_164 (k_X12_put (s := s) (k := 1) (okE_pl he (k := 1) (by decide)) (by decide) (plZ_1 k191)) rfl rfl (Nat.le_of_ble_eq_true rfl) ⟨by decide, by omega, by omega⟩ (fun r1 L1 h q hL => ?_)
            obtain ⟨rfl, rfl⟩ := q
            have hL : stars [rdv d (puD s 1 (c - dF s 1) (if (dL s 2).getD (b - dF s 2) 0 < (dL s 3).getD (a - dF s 3) 0 then 1 else 0))] h := hL
            exact e_vret dX15_obeys__221 rfl (by omega) (by omega) (⟨_, ⟨rfl, rfl⟩, by rw [s10]; rw [ob_3 (by omega) (by omega) (by omega) k170 k180 k191]; exact hL⟩)
          · have k210 := j_le_f (a := ((dL s 3).getD (a - dF s 3) 0)) (b := ((dL s 2).getD (b - dF s 2) 0)) (by omega) (by omega) c210
            refine e_iconst 214 (v := (nI 1)) dX15_obeys__213 rfl (by decide) ?_
            refine e_goto 218 dX15_obeys__214 rfl ?_
            refine e_top (v' := (nI (if (dL s 2).getD (b - dF s 2) 0 < (dL s 3).getD (a - dF s 3) 0 then 1 else 0))) (congrArg nI (show 1 = (if (dL s 2).getD (b - dF s 2) 0 < (dL s 3).getD (a - dF s 3) 0 then 1 else 0) by rw [if_pos (by omega)])) ?_
            refine p_callV 221 hL [0] 1 rfl (by decide) (L1 := [rdv d s]) (L2 := []) rfl rdv_O 0 rfl dX15_obeys__218 rfl cv_X15_164 (k_X12_put (s := s) (k := 1) (okE_pl he (k := 1) (by decide)) (by decide) (plZ_1 k191)) rfl rfl (Nat.le_of_ble_eq_true rfl) ⟨by decide, by omega, by omega⟩ (fun r1 L1 h q hL => ?_)
            obtain ⟨rfl, rfl⟩ := q
            have hL : stars [rdv d (puD s 1 (c - dF s 1) (if (dL s 2).getD (b - dF s 2) 0 < (dL s 3).getD (a - dF s 3) 0 then 1 else 0))] h := hL
            exact e_vret dX15_obeys__221 rfl (by omega) (by omega) (⟨_, ⟨rfl, rfl⟩, by rw [s10]; rw [ob_3 (by omega) (by omega) (by omega) k170 k180 k191]; exact hL⟩)
  · refine e_tableIn 222 (off := 212) dX15_obeys__10 (by rw [nI_toInt (by omega)]; omega) (by rw [nI_toInt (by omega)]; omega) (by rw [s10]; decide) rfl ?_
    refine e_aload_n 223 dX15_obeys__222 rfl rfl ?_
    refine e_iconst 224 (v := (nI 1)) dX15_obeys__223 rfl (by decide) ?_
    refine e_iload_n 225 dX15_obeys__224 rfl rfl ?_
    refine e_iconst 226 (v := (nI 1)) dX15_obeys__225 rfl (by decide) ?_
    have hv226 := rdv_V _ 0 hL rfl
    obtain ⟨A226, o226, -⟩ := id hv226
    refine u_callV 229 dX15_obeys__226 rfl cv_X15_107 o226 (u_X12_has hv226 he (by decide) (by omega) (by omega)) rfl rfl (Nat.le_of_ble_eq_true rfl) (by decide) ⟨by omega, by omega⟩ ?_
    refine e_if_eq 259 232 dX15_obeys__229 rfl rfl (fun c229 => ?_) (fun c229 => ?_)
    · have k229 := jb_eq_t c229
      exact e_vret dX15_obeys__259 rfl (by omega) (by omega) (⟨_, ⟨rfl, rfl⟩, by have g9 : (dL s 1).getD (a - dF s 1) 0 < 65536 := gd_lt (hb 1) (by decide); rw [s10]; rw [ob_4n (by omega) (by omega) g9 (Or.inl k229)]; exact hL⟩)
    · have k229 := jb_eq_f c229
      refine e_aload_n 233 dX15_obeys__232 rfl rfl ?_
      refine e_iconst 234 (v := (nI 0)) dX15_obeys__233 rfl (by decide) ?_
      refine e_iload_n 235 dX15_obeys__234 rfl rfl ?_
      refine e_iconst 236 (v := (nI 1)) dX15_obeys__235 rfl (by decide) ?_
      have hv236 := rdv_V _ 0 hL rfl
      obtain ⟨A236, o236, -⟩ := id hv236
      refine u_callV 239 dX15_obeys__236 rfl cv_X15_107 o236 (u_X12_has hv236 he (by decide) (by omega) (by omega)) rfl rfl (Nat.le_of_ble_eq_true rfl) (by decide) ⟨by omega, by omega⟩ ?_
      refine e_if_eq 259 242 dX15_obeys__239 rfl rfl (fun c239 => ?_) (fun c239 => ?_)
      · have k239 := jb_eq_t c239
        exact e_vret dX15_obeys__259 rfl (by omega) (by omega) (⟨_, ⟨rfl, rfl⟩, by have g9 : (dL s 1).getD (a - dF s 1) 0 < 65536 := gd_lt (hb 1) (by decide); rw [s10]; rw [ob_4n (by omega) (by omega) g9 (Or.inr (Or.inl k239))]; exact hL⟩)
      · have k239 := jb_eq_f c239
        refine e_aload_n 243 dX15_obeys__242 rfl rfl ?_
        refine e_iconst 244 (v := (nI 1)) dX15_obeys__243 rfl (by decide) ?_
        refine e_iload_n 245 dX15_obeys__244 rfl rfl ?_
        have hv245 := rdv_V _ 0 hL rfl
        obtain ⟨A245, o245, -⟩ := id hv245
        have g245 : (dL s 1).getD (a - dF s 1) 0 < 65536 := gd_lt (hb 1) (by decide)
        refine u_callV 248 dX15_obeys__245 rfl cv_X15_137 o245 (u_X12_get hv245 he (by decide) (plZ_1 k229)) rfl rfl (Nat.le_of_ble_eq_true rfl) (by decide) ⟨by omega, by omega⟩ ?_
        refine e_iconst 249 (v := (nI 1)) dX15_obeys__248 rfl (by decide) ?_
        refine e_icmp_ne 259 252 dX15_obeys__249 rfl rfl (fun c249 => ?_) (fun c249 => ?_)
        · have k249 := j_ne_t (a := ((dL s 1).getD (a - dF s 1) 0)) (b := 1) (by omega) (by omega) c249
          exact e_vret dX15_obeys__259 rfl (by omega) (by omega) (⟨_, ⟨rfl, rfl⟩, by have g9 : (dL s 1).getD (a - dF s 1) 0 < 65536 := gd_lt (hb 1) (by decide); rw [s10]; rw [ob_4n (by omega) (by omega) g9 (Or.inr (Or.inr k249))]; exact hL⟩)
        · have k249 := j_ne_f (a := ((dL s 1).getD (a - dF s 1) 0)) (b := 1) (by omega) (by omega) c249
          refine e_aload_n 253 dX15_obeys__252 rfl rfl ?_
          refine e_iconst 254 (v := (nI 0)) dX15_obeys__253 rfl (by decide) ?_
          refine e_iload_n 255 dX15_obeys__254 rfl rfl ?_
          refine e_iconst 256 (v := (nI 1)) dX15_obeys__255 rfl (by decide) ?_
          refine p_callV 259 hL [0] 1 rfl (by decide) (L1 := [rdv d s]) (L2 := []) rfl rdv_O 0 rfl dX15_obeys__256 rfl cv_X15_164 (k_X12_put (s := s) (k := 0) (okE_pl he (k := 0) (by decide)) (by decide) (plZ_1 k239)) rfl rfl (Nat.le_of_ble_eq_true rfl) ⟨by decide, by omega, by omega⟩ (fun r1 L1 h q hL => ?_)
          obtain ⟨rfl, rfl⟩ := q
          have hL : stars [rdv d (puD s 0 (b - dF s 0) 1)] h := hL
          exact e_vret dX15_obeys__259 rfl (by omega) (by omega) (⟨_, ⟨rfl, rfl⟩, by rw [s10]; rw [ob_4 (by omega) (by omega) g245 k229 k239 k249]; exact hL⟩)
  · refine e_tableIn 260 (off := 250) dX15_obeys__10 (by rw [nI_toInt (by omega)]; omega) (by rw [nI_toInt (by omega)]; omega) (by rw [s10]; decide) rfl ?_
    refine e_aload_n 261 dX15_obeys__260 rfl rfl ?_
    refine e_iconst 262 (v := (nI 0)) dX15_obeys__261 rfl (by decide) ?_
    refine e_iload_n 263 dX15_obeys__262 rfl rfl ?_
    refine e_iconst 264 (v := (nI 1)) dX15_obeys__263 rfl (by decide) ?_
    have hv264 := rdv_V _ 0 hL rfl
    obtain ⟨A264, o264, -⟩ := id hv264
    refine u_callV 267 dX15_obeys__264 rfl cv_X15_107 o264 (u_X12_has hv264 he (by decide) (by omega) (by omega)) rfl rfl (Nat.le_of_ble_eq_true rfl) (by decide) ⟨by omega, by omega⟩ ?_
    refine e_if_eq 304 270 dX15_obeys__267 rfl rfl (fun c267 => ?_) (fun c267 => ?_)
    · have k267 := jb_eq_t c267
      exact e_vret dX15_obeys__304 rfl (by omega) (by omega) (⟨_, ⟨rfl, rfl⟩, by have g9 : (dL s 0).getD (a - dF s 0) 0 < 65536 := gd_lt (hb 0) (by decide); rw [s10]; rw [ob_5n (by omega) (by omega) g9 (Or.inl k267)]; exact hL⟩)
    · have k267 := jb_eq_f c267
      refine e_aload_n 271 dX15_obeys__270 rfl rfl ?_
      refine e_iconst 272 (v := (nI 3)) dX15_obeys__271 rfl (by decide) ?_
      refine e_iload_n 273 dX15_obeys__272 rfl rfl ?_
      refine e_iconst 274 (v := (nI 1)) dX15_obeys__273 rfl (by decide) ?_
      have hv274 := rdv_V _ 0 hL rfl
      obtain ⟨A274, o274, -⟩ := id hv274
      refine u_callV 277 dX15_obeys__274 rfl cv_X15_107 o274 (u_X12_has hv274 he (by decide) (by omega) (by omega)) rfl rfl (Nat.le_of_ble_eq_true rfl) (by decide) ⟨by omega, by omega⟩ ?_
      refine e_if_eq 304 280 dX15_obeys__277 rfl rfl (fun c277 => ?_) (fun c277 => ?_)
      · have k277 := jb_eq_t c277
        exact e_vret dX15_obeys__304 rfl (by omega) (by omega) (⟨_, ⟨rfl, rfl⟩, by have g9 : (dL s 0).getD (a - dF s 0) 0 < 65536 := gd_lt (hb 0) (by decide); rw [s10]; rw [ob_5n (by omega) (by omega) g9 (Or.inr (Or.inl k277))]; exact hL⟩)
      · have k277 := jb_eq_f c277
        refine e_aload_n 281 dX15_obeys__280 rfl rfl ?_
        refine e_iconst 282 (v := (nI 0)) dX15_obeys__281 rfl (by decide) ?_
        refine e_iload_n 283 dX15_obeys__282 rfl rfl ?_
        have hv283 := rdv_V _ 0 hL rfl
        obtain ⟨A283, o283, -⟩ := id hv283
        have g283 : (dL s 0).getD (a - dF s 0) 0 < 65536 := gd_lt (hb 0) (by decide)
        refine u_callV 286 dX15_obeys__283 rfl cv_X15_137 o283 (u_X12_get hv283 he (by decide) (plZ_1 k267)) rfl rfl (Nat.le_of_ble_eq_true rfl) (by decide) ⟨by omega, by omega⟩ ?_
        refine e_iconst 287 (v := (nI 1)) dX15_obeys__286 rfl (by decide) ?_
        refine e_icmp_ne 304 290 dX15_obeys__287 rfl rfl (fun c287 => ?_) (fun c287 => ?_)
        · have k287 := j_ne_t (a := ((dL s 0).getD (a - dF s 0) 0)) (b := 1) (by omega) (by omega) c287
          exact e_vret dX15_obeys__304 rfl (by omega) (by omega) (⟨_, ⟨rfl, rfl⟩, by have g9 : (dL s 0).getD (a - dF s 0) 0 < 65536 := gd_lt (hb 0) (by decide); rw [s10]; rw [ob_5n (by omega) (by omega) g9 (Or.inr (Or.inr k287))]; exact hL⟩)
        · have k287 := j_ne_f (a := ((dL s 0).getD (a - dF s 0) 0)) (b := 1) (by omega) (by omega) c287
          refine e_aload_n 291 dX15_obeys__290 rfl rfl ?_
          refine e_iconst 292 (v := (nI 0)) dX15_obeys__291 rfl (by decide) ?_
          refine e_iload_n 293 dX15_obeys__292 rfl rfl ?_
          refine e_iconst 294 (v := (nI 0)) dX15_obeys__293 rfl (by decide) ?_
          refine p_callV 297 hL [0] 1 rfl (by decide) (L1 := [rdv d s]) (L2 := []) rfl rdv_O 0 rfl dX15_obeys__294 rfl cv_X15_164 (k_X12_put (s := s) (k := 0) (okE_pl he (k := 0) (by decide)) (by decide) (plZ_1 k267)) rfl rfl (Nat.le_of_ble_eq_true rfl) ⟨by decide, by omega, by omega⟩ (fun r1 L1 h q hL => ?_)
          obtain ⟨rfl, rfl⟩ := q
          have hL : stars [rdv d (puD s 0 (a - dF s 0) 0)] h := hL
          refine e_aload_n 298 dX15_obeys__297 rfl rfl ?_
          refine e_iconst 299 (v := (nI 3)) dX15_obeys__298 rfl (by decide) ?_
          refine e_iload_n 300 dX15_obeys__299 rfl rfl ?_
          refine e_iconst 301 (v := (nI 0)) dX15_obeys__300 rfl (by decide) ?_
          refine p_callV 304 hL [0] 1 rfl (by decide) (L1 := [rdv d (puD s 0 (a - dF s 0) 0)]) (L2 := []) rfl rdv_O 0 rfl dX15_obeys__301 rfl cv_X15_164 (k_X12_put (s := (puD s 0 (a - dF s 0) 0)) (k := 3) (okE_pl he (k := 3) (by decide)) (by decide) (plZ_1 k277)) rfl rfl (Nat.le_of_ble_eq_true rfl) ⟨by decide, by omega, by omega⟩ (fun r1 L1 h q hL => ?_)
          obtain ⟨rfl, rfl⟩ := q
          have hL : stars [rdv d (puD (puD s 0 (a - dF s 0) 0) 3 (b - dF (puD s 0 (a - dF s 0) 0) 3) 0)] h := hL
          exact e_vret dX15_obeys__304 rfl (by omega) (by omega) (⟨_, ⟨rfl, rfl⟩, by rw [s10]; rw [ob_5 (by omega) (by omega) g283 k267 k277 k287]; exact hL⟩)
set_option maxRecDepth 20000 in
set_option maxHeartbeats 2000000 in
theorem l_X15_obeys {d : Nat} {s : DS} (he : okE s) (hb : ∀ k, ∀ x ∈ dL s k, x < 65536) (hru : okR (dL s 4)) : ∀ (n : Nat) (i : Nat) (h : eH), (dL s 4).length / 4 - i < n → i ≤ (dL s 4).length / 4 → stars [rdv d (arN s i)] h → EE mX15_obeys 3 75 0 0 (fun x9 h' => ∃ K, (x9 = none ∧ K = [rdv d (arD s)]) ∧ stars K h') 2 [some (.ref d), some (.int (nI i)), none, none, none] [] h 0 0 := by
  intro n
  induction n with
  | zero => intro i h hlt hle hL; exact absurd hlt (by omega)
  | succ n ih =>
    intro i h hlt hle hL
    have hl4 := (okE_ln he).1
    have hv := rdv_V _ 0 hL rfl
    obtain ⟨A, v0, v1, v2, v3, v4, v5, v6, v7, v8, v9, v10, v11, v12, v13, v14, v15, v16, v17, v18, v19, v20, v21⟩ := hv
    rw [arN_4] at v18
    have e28 : (dL (arN s i) 4).length = (dL s 4).length := by rw [arN_4]
    refine e_iload_n 3 dX15_obeys_2 rfl rfl ?_
    refine e_aload_n 4 dX15_obeys_3 rfl rfl ?_
    refine e_get 7 dX15_obeys_4 rfl fl_X15_272_10 v0 rfl ?_
    refine e_icmp_ge 66 10 dX15_obeys_7 rfl rfl (fun c7 => ?_) (fun c7 => ?_)
    · have k7 := j_ge_t (a := i) (b := ((dL (arN s i) 4).length / 4)) (by omega) (by omega) c7
      exact e_vret dX15_obeys_66 rfl (by omega) (by omega) (⟨_, ⟨rfl, rfl⟩, by rw [← arN_D, ← show i = (dL s 4).length / 4 by omega]; exact hL⟩)
    · have k7 := j_ge_f (a := i) (b := ((dL (arN s i) 4).length / 4)) (by omega) (by omega) c7
      have hr9 := hru.2 i (by omega)
      have hr4 := hru.1
      refine e_aload_n 11 dX15_obeys_10 rfl rfl ?_
      refine e_get 14 dX15_obeys_11 rfl fl_X15_275_10 v0 rfl ?_
      refine e_iconst 15 (v := (nI 4)) dX15_obeys_14 rfl (by decide) ?_
      refine e_iload_n 16 dX15_obeys_15 rfl rfl ?_
      refine e_imul 17 (v := (nI (4 * i))) dX15_obeys_16 rfl (pk_mul 4 i) ?_
      refine e_iconst 18 (v := (nI 1)) dX15_obeys_17 rfl (by decide) ?_
      refine e_iadd 19 (v := (nI ((4 * i) + 1))) dX15_obeys_18 rfl (nI_add (4 * i) 1) ?_
      refine v_iald 20 v18 (k := ((4 * i) + 1)) (x := ((dL s 4).getD ((4 * i) + 1) 0)) dX15_obeys_19 rfl (by omega) (by omega) rfl ?_
      refine e_istore_n 21 (ls' := [some (.ref d), some (.int (nI i)), some (.int (nI ((dL s 4).getD ((4 * i) + 1) 0))), none, none]) dX15_obeys_20 rfl (by decide) rfl ?_
      refine e_aload_n 22 dX15_obeys_21 rfl rfl ?_
      refine e_get 25 dX15_obeys_22 rfl fl_X15_275_10 v0 rfl ?_
      refine e_iconst 26 (v := (nI 4)) dX15_obeys_25 rfl (by decide) ?_
      refine e_iload_n 27 dX15_obeys_26 rfl rfl ?_
      refine e_imul 28 (v := (nI (4 * i))) dX15_obeys_27 rfl (pk_mul 4 i) ?_
      refine e_iconst 29 (v := (nI 2)) dX15_obeys_28 rfl (by decide) ?_
      refine e_iadd 30 (v := (nI ((4 * i) + 2))) dX15_obeys_29 rfl (nI_add (4 * i) 2) ?_
      refine v_iald 31 v18 (k := ((4 * i) + 2)) (x := ((dL s 4).getD ((4 * i) + 2) 0)) dX15_obeys_30 rfl (by omega) (by omega) rfl ?_
      refine e_istore_n 32 (ls' := [some (.ref d), some (.int (nI i)), some (.int (nI ((dL s 4).getD ((4 * i) + 1) 0))), some (.int (nI ((dL s 4).getD ((4 * i) + 2) 0))), none]) dX15_obeys_31 rfl (by decide) rfl ?_
      refine e_aload_n 33 dX15_obeys_32 rfl rfl ?_
      refine e_get 36 dX15_obeys_33 rfl fl_X15_275_10 v0 rfl ?_
      refine e_iconst 37 (v := (nI 4)) dX15_obeys_36 rfl (by decide) ?_
      refine e_iload_n 38 dX15_obeys_37 rfl rfl ?_
      refine e_imul 39 (v := (nI (4 * i))) dX15_obeys_38 rfl (pk_mul 4 i) ?_
      refine e_iconst 40 (v := (nI 3)) dX15_obeys_39 rfl (by decide) ?_
      refine e_iadd 41 (v := (nI ((4 * i) + 3))) dX15_obeys_40 rfl (nI_add (4 * i) 3) ?_
      refine v_iald 42 v18 (k := ((4 * i) + 3)) (x := ((dL s 4).getD ((4 * i) + 3) 0)) dX15_obeys_41 rfl (by omega) (by omega) rfl ?_
      refine e_istore 44 (ls' := [some (.ref d), some (.int (nI i)), some (.int (nI ((dL s 4).getD ((4 * i) + 1) 0))), some (.int (nI ((dL s 4).getD ((4 * i) + 2) 0))), some (.int (nI ((dL s 4).getD ((4 * i) + 3) 0)))]) dX15_obeys_42 rfl (by decide) rfl ?_
      refine e_aload_n 45 dX15_obeys_44 rfl rfl ?_
      refine e_aload_n 46 dX15_obeys_45 rfl rfl ?_
      refine e_get 49 dX15_obeys_46 rfl fl_X15_275_10 v0 rfl ?_
      refine e_iconst 50 (v := (nI 4)) dX15_obeys_49 rfl (by decide) ?_
      refine e_iload_n 51 dX15_obeys_50 rfl rfl ?_
      refine e_imul 52 (v := (nI (4 * i))) dX15_obeys_51 rfl (pk_mul 4 i) ?_
      refine v_iald 53 v18 (k := (4 * i)) (x := ((dL s 4).getD (4 * i) 0)) dX15_obeys_52 rfl (by omega) (by omega) rfl ?_
      refine e_iload_n 54 dX15_obeys_53 rfl rfl ?_
      refine e_iload_n 55 dX15_obeys_54 rfl rfl ?_
      refine e_iload 57 dX15_obeys_55 rfl rfl ?_
      refine p_callS 60 hL [0] 1 rfl (by decide) (L1 := [rdv d (arN s i)]) (L2 := []) rfl dX15_obeys_57 rfl cs_X15_278 (k_X15_obeys_ (okE_arN he i) (fun k => arV_lt hb i k) (by omega) (by omega) (by omega) (by omega)) rfl rfl (Nat.le_of_ble_eq_true rfl) ⟨by decide, by omega, by omega⟩ (fun r1 L1 h q hL => ?_)
      obtain ⟨rfl, rfl⟩ := q
      have hL : stars [rdv d (obD (arN s i) ((dL s 4).getD (4 * i) 0) ((dL s 4).getD ((4 * i) + 1) 0) ((dL s 4).getD ((4 * i) + 2) 0) ((dL s 4).getD ((4 * i) + 3) 0))] h := hL
      rw [arN_s] at hL
      have hL : stars [rdv d (arN s (i + 1))] h := hL
      refine e_iinc 63 (v := (nI (i + 1))) (ls' := [some (.ref d), some (.int (nI (i + 1))), some (.int (nI ((dL s 4).getD ((4 * i) + 1) 0))), some (.int (nI ((dL s 4).getD ((4 * i) + 2) 0))), some (.int (nI ((dL s 4).getD ((4 * i) + 3) 0)))]) dX15_obeys_60 rfl rfl (nI_add i 1) (by decide) rfl ?_
      refine e_goto 2 dX15_obeys_63 rfl ?_
      refine e_wk [some (.ref d), some (.int (nI (i + 1))), none, none, none] ⟨rfl, rfl, trivial⟩ ?_
      exact ih (i + 1) h (by omega) (by omega) hL
set_option maxRecDepth 20000 in
set_option maxHeartbeats 2000000 in
theorem k_X15_obeys {d : Nat} {s : DS} (he : okE s) (hb : ∀ k, ∀ x ∈ dL s k, x < 65536) (hru : okR (dL s 4)) : CA mX15_obeys [.ref d] [rdv d s] (fun x9 K => x9 = none ∧ K = [rdv d (arD s)]) 3 75 0 0 := by
  refine CA.mk 4 (ls := [some (.ref d), none, none, none, none]) rfl rfl (Nat.le_of_ble_eq_true rfl) rfl (fun h hL => ?_)
  refine e_iconst 1 (v := (nI 0)) dX15_obeys_0 rfl (by decide) ?_
  refine e_istore_n 2 (ls' := [some (.ref d), some (.int (nI 0)), none, none, none]) dX15_obeys_1 rfl (by decide) rfl ?_
  have hL : stars [rdv d (arN s 0)] h := by rw [arN_0]; exact hL
  exact l_X15_obeys he hb hru _ 0 h (Nat.lt_succ_self _) (Nat.zero_le _) hL
