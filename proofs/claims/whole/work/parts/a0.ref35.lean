/-! the reference: sendsOn -/
theorem tkX_l34 {hs : List (Nat × Nat)} (hb : ∀ e ∈ hs, e.1 < 2 ^ 30 ∧ e.2 ≤ 340) (k : Nat) : tkX hs k ≤ 340 := by
  unfold tkX
  split
  · exact Nat.zero_le _
  · exact (gd_hs hb _).2
set_option maxRecDepth 20000 in
set_option maxHeartbeats 2000000 in
theorem k_X15_sendsOn_t {m : Nat} {F w wv : Nat → Nat} {fr : List Nat} {M : MS} {DL : List (Nat × DS)} {hs : List (Nat × Nat)} (hfr : fr.length ≤ 260) (hat : wv 3 < fr.length) (hw : wv 1 < 1000) (hw0 : ¬ wv 1 = 0) (hq : M.1 20 < 1000000) (hby : ∀ x ∈ fr, x < 256) (hl9 : DL.length = 6) (h6 : w 2 ≤ 6) (hok9 : ∀ i s, i < w 2 → (DL.map (·.2))[i]? = some s → okD s ∧ okE s ∧ s.1 20 < 1000000) (hm9 : wv 6 ≤ 340) (hlt : wv 4 < 1000) (hlf : 1 ≤ wv 5 ∧ wv 5 ≤ 4) : CA mX15_sendsOn [.ref m] [pt m (.inr (13, moF F (rwO w wv (wv 4) (wv 5) hs.length fr.length M.1) true)), pt (F 1) (.inl (6, 6, .inr (.inr (.inr (.inr (adD DL)))))), lst rdve DL, rst (F 6) M.2.2.2.2.1 (M.1 20) (M.2.2.2.2.2 1) (M.2.2.2.2.2 2), iar (F 21) 260 fr, iar (F 31) 64 (hs.map (·.1)), iar (F 32) 64 (hs.map (·.2))] (fun x9 K => soQ m F w wv hs.length fr M (DL.map (·.2)) (iar (F 31) 64 (hs.map (·.1))) (iar (F 32) 64 (hs.map (·.2))) x9 K) 2 60 0 0 := by
  refine CA.mk 2 (ls := [some (.ref m), none, none]) rfl rfl (Nat.le_of_ble_eq_true rfl) rfl (fun h hL => ?_)
  refine e_aload_n 1 dX15_sendsOn_0 rfl rfl ?_
  refine e_get 4 (v := (.int (bI true))) dX15_sendsOn_1 rfl fl_X15_352_13 (stars_at _ 0 hL rfl) rfl ?_
  refine e_if_ne 65 7 dX15_sendsOn_4 rfl rfl (fun c4 => ?_) (fun c4 => absurd c4 (by decide))
  exact g_soU (u := wv) (M := M) hfr hat hm9 hw hw0 hlt hlf hq hby hl9 h6 hok9 hL
set_option maxRecDepth 20000 in
set_option maxHeartbeats 2000000 in
theorem k_X15_sendsOn_f {m : Nat} {F w wv : Nat → Nat} {fr : List Nat} {M : MS} {DL : List (Nat × DS)} {hs : List (Nat × Nat)} (hfr : fr.length ≤ 260) (hat : wv 3 < fr.length) (hw : wv 1 < 1000) (hw0 : ¬ wv 1 = 0) (hq : M.1 20 < 1000000) (hby : ∀ x ∈ fr, x < 256) (hl9 : DL.length = 6) (h6 : w 2 ≤ 6) (hok9 : ∀ i s, i < w 2 → (DL.map (·.2))[i]? = some s → okD s ∧ okE s ∧ s.1 20 < 1000000) {lt lf : Nat} (hl : hs.length ≤ 64) (hb : ∀ e ∈ hs, e.1 < 2 ^ 30 ∧ e.2 ≤ 340) (hk : wv 8 < 2 ^ 30) : CA mX15_sendsOn [.ref m] [pt m (.inr (13, moF F (rwO w wv lt lf hs.length fr.length M.1) false)), pt (F 1) (.inl (6, 6, .inr (.inr (.inr (.inr (adD DL)))))), lst rdve DL, rst (F 6) M.2.2.2.2.1 (M.1 20) (M.2.2.2.2.2 1) (M.2.2.2.2.2 2), iar (F 21) 260 fr, iar (F 31) 64 (hs.map (·.1)), iar (F 32) 64 (hs.map (·.2))] (fun x9 K => soQ m F w (bgB wv hs) (tkL hs (wv 8)).length fr M (DL.map (·.2)) (iar (F 31) 64 ((tkL hs (wv 8)).map (·.1))) (iar (F 32) 64 ((tkL hs (wv 8)).map (·.2))) x9 K) 2 60 0 0 := by
  refine CA.mk 2 (ls := [some (.ref m), none, none]) rfl rfl (Nat.le_of_ble_eq_true rfl) rfl (fun h hL => ?_)
  have htk := tkX_l34 hb (wv 8)
  refine e_aload_n 1 dX15_sendsOn_0 rfl rfl ?_
  refine e_get 4 (v := (.int (bI false))) dX15_sendsOn_1 rfl fl_X15_352_13 (stars_at _ 0 hL rfl) rfl ?_
  refine e_if_ne 65 7 dX15_sendsOn_4 rfl rfl (fun c4 => absurd c4 (by decide)) (fun c4 => ?_)
  refine e_aload_n 8 dX15_sendsOn_7 rfl rfl ?_
  refine e_iconst 9 (v := (nI 1)) dX15_sendsOn_8 rfl (by decide) ?_
  refine p_put 12 hL 0 (fs' := moF F (rwO w wv lt lf hs.length fr.length M.1) true) (L' := [pt m (.inr (13, moF F (rwO w wv lt lf hs.length fr.length M.1) true)), pt (F 1) (.inl (6, 6, .inr (.inr (.inr (.inr (adD DL)))))), lst rdve DL, rst (F 6) M.2.2.2.2.1 (M.1 20) (M.2.2.2.2.2 1) (M.2.2.2.2.2 2), iar (F 21) 260 fr, iar (F 31) 64 (hs.map (·.1)), iar (F 32) 64 (hs.map (·.2))]) rfl rfl dX15_sendsOn_9 rfl fp_X15_352_13 (Or.inl rfl) (Nat.le_of_ble_eq_true rfl) (by decide) rfl rfl (fun h hL => ?_)
  refine e_aload_n 13 dX15_sendsOn_12 rfl rfl ?_
  refine e_aload_n 14 dX15_sendsOn_13 rfl rfl ?_
  refine e_aload_n 15 dX15_sendsOn_14 rfl rfl ?_
  refine e_get 18 (v := (.int (nI (wv 8)))) dX15_sendsOn_15 rfl fl_X15_375_13 (stars_at _ 0 hL rfl) rfl ?_
  have hL : stars [pt m (.inr (13, moF F (upN (rwO w wv lt lf hs.length fr.length M.1) 33 hs.length) true)), pt (F 1) (.inl (6, 6, .inr (.inr (.inr (.inr (adD DL)))))), lst rdve DL, rst (F 6) M.2.2.2.2.1 (M.1 20) (M.2.2.2.2.2 1) (M.2.2.2.2.2 2), iar (F 21) 260 fr, iar (F 31) 64 (hs.map (·.1)), iar (F 32) 64 (hs.map (·.2))] h := hL
  refine p_callV 21 hL [0, 5, 6, 1, 2, 3, 4] 7 rfl (by decide) (L1 := [pt m (.inr (13, moF F (upN (rwO w wv lt lf hs.length fr.length M.1) 33 hs.length) true)), iar (F 31) 64 (hs.map (·.1)), iar (F 32) 64 (hs.map (·.2))]) (L2 := [pt (F 1) (.inl (6, 6, .inr (.inr (.inr (.inr (adD DL)))))), lst rdve DL, rst (F 6) M.2.2.2.2.1 (M.1 20) (M.2.2.2.2.2 1) (M.2.2.2.2.2 2), iar (F 21) 260 fr]) rfl isO_pt 0 rfl dX15_sendsOn_18 rfl cv_X15_378 (k_X15_takeHarm (w := (rwO w wv lt lf hs.length fr.length M.1)) hl hb hk) rfl rfl (Nat.le_of_ble_eq_true rfl) ⟨by decide, by omega, by omega⟩ (fun r1 L1 h q hL => ?_)
  obtain ⟨rfl, rfl⟩ := q
  have hL : stars [pt m (.inr (13, moF F (upN (rwO w wv lt lf hs.length fr.length M.1) 33 (tkL hs (wv 8)).length) true)), iar (F 31) 64 ((tkL hs (wv 8)).map (·.1)), iar (F 32) 64 ((tkL hs (wv 8)).map (·.2)), pt (F 1) (.inl (6, 6, .inr (.inr (.inr (.inr (adD DL)))))), lst rdve DL, rst (F 6) M.2.2.2.2.1 (M.1 20) (M.2.2.2.2.2 1) (M.2.2.2.2.2 2), iar (F 21) 260 fr] h := hL
  have hL : stars [pt m (.inr (13, moF F (upN (rwO w wv lt lf hs.length fr.length M.1) 33 (tkL hs (wv 8)).length) true)), pt (F 1) (.inl (6, 6, .inr (.inr (.inr (.inr (adD DL)))))), lst rdve DL, rst (F 6) M.2.2.2.2.1 (M.1 20) (M.2.2.2.2.2 1) (M.2.2.2.2.2 2), iar (F 21) 260 fr, iar (F 31) 64 ((tkL hs (wv 8)).map (·.1)), iar (F 32) 64 ((tkL hs (wv 8)).map (·.2))] h := stars_ixn hL 7 rfl [0, 3, 4, 5, 6, 1, 2] (by decide) rfl
  refine p_put 24 hL 0 (fs' := moF F (upN (upN (rwO w wv lt lf hs.length fr.length M.1) 33 (tkL hs (wv 8)).length) 28 (tkX hs (wv 8))) true) (L' := [pt m (.inr (13, moF F (upN (upN (rwO w wv lt lf hs.length fr.length M.1) 33 (tkL hs (wv 8)).length) 28 (tkX hs (wv 8))) true)), pt (F 1) (.inl (6, 6, .inr (.inr (.inr (.inr (adD DL)))))), lst rdve DL, rst (F 6) M.2.2.2.2.1 (M.1 20) (M.2.2.2.2.2 1) (M.2.2.2.2.2 2), iar (F 21) 260 fr, iar (F 31) 64 ((tkL hs (wv 8)).map (·.1)), iar (F 32) 64 ((tkL hs (wv 8)).map (·.2))]) rfl rfl dX15_sendsOn_21 rfl fp_X15_381_13 (Or.inl rfl) (Nat.le_of_ble_eq_true rfl) rfl rfl rfl (fun h hL => ?_)
  refine e_aload_n 25 dX15_sendsOn_24 rfl rfl ?_
  refine e_dup 26 dX15_sendsOn_25 rfl rfl ?_
  refine e_get 29 (v := (.int (nI (wv 8)))) dX15_sendsOn_26 rfl fl_X15_375_13 (stars_at _ 0 hL rfl) rfl ?_
  refine e_iconst 30 (v := (nI 1)) dX15_sendsOn_29 rfl (by decide) ?_
  refine e_iadd 31 (v := (nI ((wv 8) + 1))) dX15_sendsOn_30 rfl (nI_add (wv 8) 1) ?_
  refine p_put 34 hL 0 (fs' := moF F (upN (upN (upN (rwO w wv lt lf hs.length fr.length M.1) 33 (tkL hs (wv 8)).length) 28 (tkX hs (wv 8))) 29 ((wv 8) + 1)) true) (L' := [pt m (.inr (13, moF F (upN (upN (upN (rwO w wv lt lf hs.length fr.length M.1) 33 (tkL hs (wv 8)).length) 28 (tkX hs (wv 8))) 29 ((wv 8) + 1)) true)), pt (F 1) (.inl (6, 6, .inr (.inr (.inr (.inr (adD DL)))))), lst rdve DL, rst (F 6) M.2.2.2.2.1 (M.1 20) (M.2.2.2.2.2 1) (M.2.2.2.2.2 2), iar (F 21) 260 fr, iar (F 31) 64 ((tkL hs (wv 8)).map (·.1)), iar (F 32) 64 ((tkL hs (wv 8)).map (·.2))]) rfl rfl dX15_sendsOn_31 rfl fp_X15_375_13 (Or.inl rfl) (Nat.le_of_ble_eq_true rfl) rfl rfl rfl (fun h hL => ?_)
  refine e_aload_n 35 dX15_sendsOn_34 rfl rfl ?_
  refine e_aload_n 36 dX15_sendsOn_35 rfl rfl ?_
  refine e_get 39 (v := (.int (nI (tkX hs (wv 8))))) dX15_sendsOn_36 rfl fl_X15_381_13 (stars_at _ 0 hL rfl) rfl ?_
  refine e_sipush 42 (v := (nI 256)) dX15_sendsOn_39 rfl (by decide) ?_
  refine e_icmp_le 56 45 dX15_sendsOn_42 rfl rfl (fun c42 => ?_) (fun c42 => ?_)
  · have k42 := j_le_t (a := (tkX hs (wv 8))) (b := 256) (by omega) (by omega) c42
    refine e_iconst 57 (v := (nI 0)) dX15_sendsOn_56 rfl (by decide) ?_
    refine e_top (v' := (nI ((tkX hs (wv 8)) - 256))) (by rw [show (tkX hs (wv 8)) - 256 = 0 by omega]) ?_
    refine p_put 60 hL 0 (fs' := moF F (upN (upN (upN (upN (rwO w wv lt lf hs.length fr.length M.1) 33 (tkL hs (wv 8)).length) 28 (tkX hs (wv 8))) 29 ((wv 8) + 1)) 26 ((tkX hs (wv 8)) - 256)) true) (L' := [pt m (.inr (13, moF F (upN (upN (upN (upN (rwO w wv lt lf hs.length fr.length M.1) 33 (tkL hs (wv 8)).length) 28 (tkX hs (wv 8))) 29 ((wv 8) + 1)) 26 ((tkX hs (wv 8)) - 256)) true)), pt (F 1) (.inl (6, 6, .inr (.inr (.inr (.inr (adD DL)))))), lst rdve DL, rst (F 6) M.2.2.2.2.1 (M.1 20) (M.2.2.2.2.2 1) (M.2.2.2.2.2 2), iar (F 21) 260 fr, iar (F 31) 64 ((tkL hs (wv 8)).map (·.1)), iar (F 32) 64 ((tkL hs (wv 8)).map (·.2))]) rfl rfl dX15_sendsOn_57 rfl fp_X15_384_13 (Or.inl rfl) (Nat.le_of_ble_eq_true rfl) rfl rfl rfl (fun h hL => ?_)
    refine e_aload_n 61 dX15_sendsOn_60 rfl rfl ?_
    refine e_iconst 62 (v := (nI 4)) dX15_sendsOn_61 rfl (by decide) ?_
    refine p_put 65 hL 0 (fs' := moF F (upN (upN (upN (upN (upN (rwO w wv lt lf hs.length fr.length M.1) 33 (tkL hs (wv 8)).length) 28 (tkX hs (wv 8))) 29 ((wv 8) + 1)) 26 ((tkX hs (wv 8)) - 256)) 27 4) true) (L' := [pt m (.inr (13, moF F (upN (upN (upN (upN (upN (rwO w wv lt lf hs.length fr.length M.1) 33 (tkL hs (wv 8)).length) 28 (tkX hs (wv 8))) 29 ((wv 8) + 1)) 26 ((tkX hs (wv 8)) - 256)) 27 4) true)), pt (F 1) (.inl (6, 6, .inr (.inr (.inr (.inr (adD DL)))))), lst rdve DL, rst (F 6) M.2.2.2.2.1 (M.1 20) (M.2.2.2.2.2 1) (M.2.2.2.2.2 2), iar (F 21) 260 fr, iar (F 31) 64 ((tkL hs (wv 8)).map (·.1)), iar (F 32) 64 ((tkL hs (wv 8)).map (·.2))]) rfl rfl dX15_sendsOn_62 rfl fp_X15_387_13 (Or.inl rfl) (Nat.le_of_ble_eq_true rfl) rfl rfl rfl (fun h hL => ?_)
    have hL : stars (soK m F w (bgB wv hs) true ((bgB wv hs) 4) ((bgB wv hs) 5) (tkL hs (wv 8)).length fr M DL (iar (F 31) 64 ((tkL hs (wv 8)).map (·.1))) (iar (F 32) 64 ((tkL hs (wv 8)).map (·.2)))) h := hL
    exact g_soU (u := (bgB wv hs)) (M := M) hfr (by exact hat) (by exact htk) (by exact hw) (by exact hw0) (show (tkX hs (wv 8)) - 256 < 1000 by omega) (show 1 ≤ 4 ∧ 4 ≤ 4 by decide) hq hby hl9 h6 hok9 hL
  · have k42 := j_le_f (a := (tkX hs (wv 8))) (b := 256) (by omega) (by omega) c42
    refine e_aload_n 46 dX15_sendsOn_45 rfl rfl ?_
    refine e_get 49 (v := (.int (nI (tkX hs (wv 8))))) dX15_sendsOn_46 rfl fl_X15_381_13 (stars_at _ 0 hL rfl) rfl ?_
    refine e_sipush 52 (v := (nI 256)) dX15_sendsOn_49 rfl (by decide) ?_
    refine e_isub 53 (v := (nI ((tkX hs (wv 8)) - 256))) dX15_sendsOn_52 rfl (pk_sub (by omega)) ?_
    refine e_goto 57 dX15_sendsOn_53 rfl ?_
    refine p_put 60 hL 0 (fs' := moF F (upN (upN (upN (upN (rwO w wv lt lf hs.length fr.length M.1) 33 (tkL hs (wv 8)).length) 28 (tkX hs (wv 8))) 29 ((wv 8) + 1)) 26 ((tkX hs (wv 8)) - 256)) true) (L' := [pt m (.inr (13, moF F (upN (upN (upN (upN (rwO w wv lt lf hs.length fr.length M.1) 33 (tkL hs (wv 8)).length) 28 (tkX hs (wv 8))) 29 ((wv 8) + 1)) 26 ((tkX hs (wv 8)) - 256)) true)), pt (F 1) (.inl (6, 6, .inr (.inr (.inr (.inr (adD DL)))))), lst rdve DL, rst (F 6) M.2.2.2.2.1 (M.1 20) (M.2.2.2.2.2 1) (M.2.2.2.2.2 2), iar (F 21) 260 fr, iar (F 31) 64 ((tkL hs (wv 8)).map (·.1)), iar (F 32) 64 ((tkL hs (wv 8)).map (·.2))]) rfl rfl dX15_sendsOn_57 rfl fp_X15_384_13 (Or.inl rfl) (Nat.le_of_ble_eq_true rfl) rfl rfl rfl (fun h hL => ?_)
    refine e_aload_n 61 dX15_sendsOn_60 rfl rfl ?_
    refine e_iconst 62 (v := (nI 4)) dX15_sendsOn_61 rfl (by decide) ?_
    refine p_put 65 hL 0 (fs' := moF F (upN (upN (upN (upN (upN (rwO w wv lt lf hs.length fr.length M.1) 33 (tkL hs (wv 8)).length) 28 (tkX hs (wv 8))) 29 ((wv 8) + 1)) 26 ((tkX hs (wv 8)) - 256)) 27 4) true) (L' := [pt m (.inr (13, moF F (upN (upN (upN (upN (upN (rwO w wv lt lf hs.length fr.length M.1) 33 (tkL hs (wv 8)).length) 28 (tkX hs (wv 8))) 29 ((wv 8) + 1)) 26 ((tkX hs (wv 8)) - 256)) 27 4) true)), pt (F 1) (.inl (6, 6, .inr (.inr (.inr (.inr (adD DL)))))), lst rdve DL, rst (F 6) M.2.2.2.2.1 (M.1 20) (M.2.2.2.2.2 1) (M.2.2.2.2.2 2), iar (F 21) 260 fr, iar (F 31) 64 ((tkL hs (wv 8)).map (·.1)), iar (F 32) 64 ((tkL hs (wv 8)).map (·.2))]) rfl rfl dX15_sendsOn_62 rfl fp_X15_387_13 (Or.inl rfl) (Nat.le_of_ble_eq_true rfl) rfl rfl rfl (fun h hL => ?_)
    have hL : stars (soK m F w (bgB wv hs) true ((bgB wv hs) 4) ((bgB wv hs) 5) (tkL hs (wv 8)).length fr M DL (iar (F 31) 64 ((tkL hs (wv 8)).map (·.1))) (iar (F 32) 64 ((tkL hs (wv 8)).map (·.2)))) h := hL
    exact g_soU (u := (bgB wv hs)) (M := M) hfr (by exact hat) (by exact htk) (by exact hw) (by exact hw0) (show (tkX hs (wv 8)) - 256 < 1000 by omega) (show 1 ≤ 4 ∧ 4 ≤ 4 by decide) hq hby hl9 h6 hok9 hL
