/-! the reference: the master waits -/
set_option maxRecDepth 20000 in
set_option maxHeartbeats 2000000 in
theorem g_wt {nu ad at9 : Nat} {q : List Nat} {R : List RQE} {m lt lf hn fl ck : Nat} {F w wv v B : Nat → Nat} {bg : Bool} {er : List Nat} {RS : List RSE} {SC : List SCE} {mb : Nat → Bool} {X1 X2 X3 X4 X5 X6 X7 X8 : sA} (hR : RS.length ≤ 32) (ha : at9 < 2 ^ 31) (hm : v 3 < 2 ^ 31) (h1 : v 1 ≤ 2) (h2 : v 2 < 2 ^ 30) (h4 : v 4 ≤ 5000) (h5 : v 5 ≤ 2000) (had : ad < 256) (hw1 : wv 1 < 8) (hle : er.length ≤ 256) {Q : Option Value → eH → Prop} (kk : ∀ h, stars [rmo m F (oW w wv lt lf hn fl ck (wtS (v, (q, nu, ad, at9) :: R, RS, SC, er, mb) (!decide (wv 1 = 0))).1) bg, rst (F 6) (wtS (v, (q, nu, ad, at9) :: R, RS, SC, er, mb) (!decide (wv 1 = 0))).2.2.2.2.1 ((wtS (v, (q, nu, ad, at9) :: R, RS, SC, er, mb) (!decide (wv 1 = 0))).1 20) ((wtS (v, (q, nu, ad, at9) :: R, RS, SC, er, mb) (!decide (wv 1 = 0))).2.2.2.2.2 1) ((wtS (v, (q, nu, ad, at9) :: R, RS, SC, er, mb) (!decide (wv 1 = 0))).2.2.2.2.2 2), rrw (F 12) 16 3 ((wtS (v, (q, nu, ad, at9) :: R, RS, SC, er, mb) (!decide (wv 1 = 0))).2.1.map rqE), rrw (F 13) 32 5 ((wtS (v, (q, nu, ad, at9) :: R, RS, SC, er, mb) (!decide (wv 1 = 0))).2.2.1.map rsE), X1, X2, X3, X4, X5, X6, X7, X8] h → EE mX15_oneTick 7 190 0 0 Q 166 [some (.ref m), none, none] [] h 0 0) {h : eH} (hL : stars [pt m (.inr (13, moF F (oW w wv lt lf hn fl ck v) bg)), rst (F 6) er (v 20) (mb 1) (mb 2), rrw (F 12) 16 3 (((q, nu, ad, at9) :: R).map rqE), rrw (F 13) 32 5 (RS.map rsE), X1, X2, X3, X4, X5, X6, X7, X8] h) : EE mX15_oneTick 7 190 0 0 (Q) 79 [some (.ref m), none, none] [] h 0 0 := by
  refine e_aload_n 80 dX15_oneTick_79 rfl rfl ?_
  refine e_get 83 (v := (.int (nI (v 1)))) dX15_oneTick_80 rfl fl_X15_306_13 (stars_at _ 0 hL rfl) rfl ?_
  refine e_iconst 84 (v := (nI 2)) dX15_oneTick_83 rfl (by decide) ?_
  refine e_icmp_ne 166 87 dX15_oneTick_84 rfl rfl (fun c84 => ?_) (fun c84 => ?_)
  · have k84 := j_ne_t (a := (v 1)) (b := 2) (by omega) (by omega) c84
    have hw9 : wtS (v, (q, nu, ad, at9) :: R, RS, SC, er, mb) (!decide (wv 1 = 0)) = (v, (q, nu, ad, at9) :: R, RS, SC, er, mb) := if_neg (fun y => k84 y.1)
    exact kk h (by rw [hw9]; exact hL)
  · have k84 := j_ne_f (a := (v 1)) (b := 2) (by omega) (by omega) c84
    refine e_aload_n 88 dX15_oneTick_87 rfl rfl ?_
    refine e_dup 89 dX15_oneTick_88 rfl rfl ?_
    refine e_get 92 (v := (.int (nI (v 2)))) dX15_oneTick_89 rfl fl_X15_400_13 (stars_at _ 0 hL rfl) rfl ?_
    refine e_iconst 93 (v := (nI 1)) dX15_oneTick_92 rfl (by decide) ?_
    refine e_iadd 94 (v := (nI ((v 2) + 1))) dX15_oneTick_93 rfl (nI_add (v 2) 1) ?_
    refine p_put 97 hL 0 (fs' := moF F (upN (oW w wv lt lf hn fl ck v) 8 ((v 2) + 1)) bg) (L' := [pt m (.inr (13, moF F (upN (oW w wv lt lf hn fl ck v) 8 ((v 2) + 1)) bg)), rst (F 6) er (v 20) (mb 1) (mb 2), rrw (F 12) 16 3 (((q, nu, ad, at9) :: R).map rqE), rrw (F 13) 32 5 (RS.map rsE), X1, X2, X3, X4, X5, X6, X7, X8]) rfl rfl dX15_oneTick_94 rfl fp_X15_400_13 (Or.inl rfl) (Nat.le_of_ble_eq_true rfl) rfl rfl rfl (fun h hL => ?_)
    refine e_aload_n 98 dX15_oneTick_97 rfl rfl ?_
    refine e_get 101 (v := (.ref (F 12))) dX15_oneTick_98 rfl fl_X15_44_13 (stars_at _ 0 hL rfl) rfl ?_
    obtain ⟨A101, u101_0, u101_1, u101_2, u101_3, u101_4⟩ := rrw_V _ 2 hL rfl
    refine e_get 104 (v := (.ref (A101 2))) dX15_oneTick_101 rfl fl_X15_292_11 u101_0 rfl ?_
    refine e_iconst 105 (v := (nI 0)) dX15_oneTick_104 rfl (by decide) ?_
    refine v_aald 106 u101_3 (k := 0) dX15_oneTick_105 rfl (by omega) (by omega) (fun b105 y105 => ?_)
    refine e_iconst 107 (v := (nI 0)) dX15_oneTick_106 rfl (by decide) ?_
    refine v_iald 108 (r := (rE2 (((q, nu, ad, at9) :: R).map rqE) 0)) y105 (k := 0) (x := ad) dX15_oneTick_107 rfl (Nat.le_of_ble_eq_true rfl) (by omega) rfl ?_
    refine e_if_ne 133 111 dX15_oneTick_108 rfl rfl (fun c108 => ?_) (fun c108 => ?_)
    · have k108 := j_ne0_t (a := ad) (by omega) c108
      refine e_aload_n 134 dX15_oneTick_133 rfl rfl ?_
      refine e_get 137 (v := (.int (nI ((v 2) + 1)))) dX15_oneTick_134 rfl fl_X15_400_13 (stars_at _ 0 hL rfl) rfl ?_
      refine e_aload_n 138 dX15_oneTick_137 rfl rfl ?_
      refine e_get 141 (v := (.int (nI (v 4)))) dX15_oneTick_138 rfl fl_X15_33_13 (stars_at _ 0 hL rfl) rfl ?_
      refine e_icmp_lt 166 144 dX15_oneTick_141 rfl rfl (fun c141 => ?_) (fun c141 => ?_)
      · have k141 := j_lt_t (a := ((v 2) + 1)) (b := (v 4)) (by omega) (by omega) c141
        have hw9 : wtS (v, (q, nu, ad, at9) :: R, RS, SC, er, mb) (!decide (wv 1 = 0)) = (wt1 (v, (q, nu, ad, at9) :: R, RS, SC, er, mb)) := (if_pos (show v 1 = 2 ∧ 0 < ((q, nu, ad, at9) :: R).length from ⟨k84, Nat.succ_pos _⟩)).trans ((if_neg (show ¬ ad = 0 from k108)).trans (if_neg (show ¬ (v 4 ≤ v 2 + 1 ∧ (!decide (wv 1 = 0)) = false ∧ er.length = 0) from fun y => absurd y.1 (by omega))))
        exact kk h (by rw [hw9]; exact hL)
      · have k141 := j_lt_f (a := ((v 2) + 1)) (b := (v 4)) (by omega) (by omega) c141
        refine e_aload_n 145 dX15_oneTick_144 rfl rfl ?_
        refine e_get 148 (v := (.int (nI (wv 1)))) dX15_oneTick_145 rfl fl_X15_340_13 (stars_at _ 0 hL rfl) rfl ?_
        refine e_if_ne 166 151 dX15_oneTick_148 rfl rfl (fun c148 => ?_) (fun c148 => ?_)
        · have k148 := j_ne0_t (a := (wv 1)) (by omega) c148
          have hw9 : wtS (v, (q, nu, ad, at9) :: R, RS, SC, er, mb) (!decide (wv 1 = 0)) = (wt1 (v, (q, nu, ad, at9) :: R, RS, SC, er, mb)) := (if_pos (show v 1 = 2 ∧ 0 < ((q, nu, ad, at9) :: R).length from ⟨k84, Nat.succ_pos _⟩)).trans ((if_neg (show ¬ ad = 0 from k108)).trans (if_neg (show ¬ (v 4 ≤ v 2 + 1 ∧ (!decide (wv 1 = 0)) = false ∧ er.length = 0) from fun y => by have y2 := y.2.1; rw [decide_eq_false k148] at y2; cases y2)))
          exact kk h (by rw [hw9]; exact hL)
        · have k148 := j_ne0_f (a := (wv 1)) (by omega) c148
          refine e_aload_n 152 dX15_oneTick_151 rfl rfl ?_
          refine e_get 155 (v := (.ref (F 6))) dX15_oneTick_152 rfl fl_X15_25_13 (stars_at _ 0 hL rfl) rfl ?_
          obtain ⟨b155, u155_0, u155_1⟩ := rst_V _ 1 hL rfl
          refine e_get 158 (v := (.int (nI er.length))) dX15_oneTick_155 rfl fl_X15_320_12 u155_0 rfl ?_
          refine e_if_ne 166 161 dX15_oneTick_158 rfl rfl (fun c158 => ?_) (fun c158 => ?_)
          · have k158 := j_ne0_t (a := er.length) (by omega) c158
            have hw9 : wtS (v, (q, nu, ad, at9) :: R, RS, SC, er, mb) (!decide (wv 1 = 0)) = (wt1 (v, (q, nu, ad, at9) :: R, RS, SC, er, mb)) := (if_pos (show v 1 = 2 ∧ 0 < ((q, nu, ad, at9) :: R).length from ⟨k84, Nat.succ_pos _⟩)).trans ((if_neg (show ¬ ad = 0 from k108)).trans (if_neg (show ¬ (v 4 ≤ v 2 + 1 ∧ (!decide (wv 1 = 0)) = false ∧ er.length = 0) from fun y => k158 y.2.2)))
            exact kk h (by rw [hw9]; exact hL)
          · have k158 := j_ne0_f (a := er.length) (by omega) c158
            refine e_aload_n 162 dX15_oneTick_161 rfl rfl ?_
            refine e_iconst 163 (v := (nI 1)) dX15_oneTick_162 rfl (by decide) ?_
            have hL : stars [pt m (.inr (13, moF F (rmM (oW w wv lt lf hn fl ck v) (upN v 2 (v 2 + 1))) bg)), rst (F 6) er (v 20) (mb 1) (mb 2), rrw (F 12) 16 3 (((q, nu, ad, at9) :: R).map rqE), rrw (F 13) 32 5 (RS.map rsE), X1, X2, X3, X4, X5, X6, X7, X8] h := hL
            refine p_callV 166 hL [0, 1, 2, 3, 4, 5, 6, 7, 8, 9, 10, 11] 12 rfl (by decide) (L1 := [pt m (.inr (13, moF F (rmM (oW w wv lt lf hn fl ck v) (upN v 2 (v 2 + 1))) bg)), rst (F 6) er (v 20) (mb 1) (mb 2), rrw (F 12) 16 3 (((q, nu, ad, at9) :: R).map rqE), rrw (F 13) 32 5 (RS.map rsE)]) (L2 := [X1, X2, X3, X4, X5, X6, X7, X8]) rfl isO_pt 0 rfl dX15_oneTick_163 rfl cv_X15_317 (K_fails (w := (oW w wv lt lf hn fl ck v)) (v := (upN v 2 (v 2 + 1))) (SC := SC) (why := 1) hR ha hm) rfl rfl (Nat.le_of_ble_eq_true rfl) ⟨by decide, by omega, by omega⟩ (fun r1 L1 h q hL => ?_)
            obtain ⟨rfl, rfl⟩ := q
            have hL : stars [rmo m F (rmM (oW w wv lt lf hn fl ck v) (flS (wt1 (v, (q, nu, ad, at9) :: R, RS, SC, er, mb)) 1).1) bg, rst (F 6) (flS (wt1 (v, (q, nu, ad, at9) :: R, RS, SC, er, mb)) 1).2.2.2.2.1 ((flS (wt1 (v, (q, nu, ad, at9) :: R, RS, SC, er, mb)) 1).1 20) ((flS (wt1 (v, (q, nu, ad, at9) :: R, RS, SC, er, mb)) 1).2.2.2.2.2 1) ((flS (wt1 (v, (q, nu, ad, at9) :: R, RS, SC, er, mb)) 1).2.2.2.2.2 2), rrw (F 12) 16 3 ((flS (wt1 (v, (q, nu, ad, at9) :: R, RS, SC, er, mb)) 1).2.1.map rqE), rrw (F 13) 32 5 ((flS (wt1 (v, (q, nu, ad, at9) :: R, RS, SC, er, mb)) 1).2.2.1.map rsE), X1, X2, X3, X4, X5, X6, X7, X8] h := hL
            have hw9 : wtS (v, (q, nu, ad, at9) :: R, RS, SC, er, mb) (!decide (wv 1 = 0)) = (flS (wt1 (v, (q, nu, ad, at9) :: R, RS, SC, er, mb)) 1) := (if_pos (show v 1 = 2 ∧ 0 < ((q, nu, ad, at9) :: R).length from ⟨k84, Nat.succ_pos _⟩)).trans ((if_neg (show ¬ ad = 0 from k108)).trans (if_pos (show v 4 ≤ v 2 + 1 ∧ (!decide (wv 1 = 0)) = false ∧ er.length = 0 from ⟨by omega, by rw [decide_eq_true k148]; rfl, k158⟩)))
            exact kk h (by rw [hw9]; exact hL)
    · have k108 := j_ne0_f (a := ad) (by omega) c108
      refine e_aload_n 112 dX15_oneTick_111 rfl rfl ?_
      refine e_get 115 (v := (.int (nI ((v 2) + 1)))) dX15_oneTick_112 rfl fl_X15_400_13 (stars_at _ 0 hL rfl) rfl ?_
      refine e_aload_n 116 dX15_oneTick_115 rfl rfl ?_
      refine e_get 119 (v := (.int (nI (v 5)))) dX15_oneTick_116 rfl fl_X15_36_13 (stars_at _ 0 hL rfl) rfl ?_
      refine e_icmp_lt 166 122 dX15_oneTick_119 rfl rfl (fun c119 => ?_) (fun c119 => ?_)
      · have k119 := j_lt_t (a := ((v 2) + 1)) (b := (v 5)) (by omega) (by omega) c119
        have hw9 : wtS (v, (q, nu, ad, at9) :: R, RS, SC, er, mb) (!decide (wv 1 = 0)) = (wt1 (v, (q, nu, ad, at9) :: R, RS, SC, er, mb)) := (if_pos (show v 1 = 2 ∧ 0 < ((q, nu, ad, at9) :: R).length from ⟨k84, Nat.succ_pos _⟩)).trans ((if_pos (show ad = 0 from k108)).trans (if_neg (show ¬ v 5 ≤ v 2 + 1 by omega)))
        exact kk h (by rw [hw9]; exact hL)
      · have k119 := j_lt_f (a := ((v 2) + 1)) (b := (v 5)) (by omega) (by omega) c119
        refine e_aload_n 123 dX15_oneTick_122 rfl rfl ?_
        refine e_iconst 124 (v := (nI 0)) dX15_oneTick_123 rfl (by decide) ?_
        refine e_iconst 125 (v := (nI 0)) dX15_oneTick_124 rfl (by decide) ?_
        refine e_iconst 126 (v := (nI 0)) dX15_oneTick_125 rfl (by decide) ?_
        refine e_iconst 127 (v := (nI 0)) dX15_oneTick_126 rfl (by decide) ?_
        have hL : stars [pt m (.inr (13, moF F (rmM (oW w wv lt lf hn fl ck v) (upN v 2 (v 2 + 1))) bg)), rst (F 6) er (v 20) (mb 1) (mb 2), rrw (F 12) 16 3 (((q, nu, ad, at9) :: R).map rqE), rrw (F 13) 32 5 (RS.map rsE), X1, X2, X3, X4, X5, X6, X7, X8] h := hL
        refine p_callV 130 hL [0, 1, 2, 3, 4, 5, 6, 7, 8, 9, 10, 11] 12 rfl (by decide) (L1 := [pt m (.inr (13, moF F (rmM (oW w wv lt lf hn fl ck v) (upN v 2 (v 2 + 1))) bg)), rst (F 6) er (v 20) (mb 1) (mb 2), rrw (F 12) 16 3 (((q, nu, ad, at9) :: R).map rqE), rrw (F 13) 32 5 (RS.map rsE)]) (L2 := [X1, X2, X3, X4, X5, X6, X7, X8]) rfl isO_pt 0 rfl dX15_oneTick_127 rfl cv_X15_309 (K_through (w := (oW w wv lt lf hn fl ck v)) (v := (upN v 2 (v 2 + 1))) (SC := SC) (oc := 0) (co := 0) (fr9 := 0) (n := 0) hR (by decide) (Nat.zero_le _)) rfl rfl (Nat.le_of_ble_eq_true rfl) ⟨by decide, by omega, by omega⟩ (fun r1 L1 h q hL => ?_)
        obtain ⟨rfl, rfl⟩ := q
        have hL : stars [rmo m F (rmM (oW w wv lt lf hn fl ck v) (fnS (wt1 (v, (q, nu, ad, at9) :: R, RS, SC, er, mb)) 0 0 (pf er 0 0)).1) bg, rst (F 6) (fnS (wt1 (v, (q, nu, ad, at9) :: R, RS, SC, er, mb)) 0 0 (pf er 0 0)).2.2.2.2.1 ((fnS (wt1 (v, (q, nu, ad, at9) :: R, RS, SC, er, mb)) 0 0 (pf er 0 0)).1 20) ((fnS (wt1 (v, (q, nu, ad, at9) :: R, RS, SC, er, mb)) 0 0 (pf er 0 0)).2.2.2.2.2 1) ((fnS (wt1 (v, (q, nu, ad, at9) :: R, RS, SC, er, mb)) 0 0 (pf er 0 0)).2.2.2.2.2 2), rrw (F 12) 16 3 ((fnS (wt1 (v, (q, nu, ad, at9) :: R, RS, SC, er, mb)) 0 0 (pf er 0 0)).2.1.map rqE), rrw (F 13) 32 5 ((fnS (wt1 (v, (q, nu, ad, at9) :: R, RS, SC, er, mb)) 0 0 (pf er 0 0)).2.2.1.map rsE), X1, X2, X3, X4, X5, X6, X7, X8] h := hL
        refine e_goto 166 dX15_oneTick_130 rfl ?_
        have hw9 : wtS (v, (q, nu, ad, at9) :: R, RS, SC, er, mb) (!decide (wv 1 = 0)) = (fnS (wt1 (v, (q, nu, ad, at9) :: R, RS, SC, er, mb)) 0 0 (pf er 0 0)) := (if_pos (show v 1 = 2 ∧ 0 < ((q, nu, ad, at9) :: R).length from ⟨k84, Nat.succ_pos _⟩)).trans ((if_pos (show ad = 0 from k108)).trans (if_pos (show v 5 ≤ v 2 + 1 by omega)))
        exact kk h (by rw [hw9]; exact hL)
set_option maxRecDepth 20000 in
set_option maxHeartbeats 2000000 in
theorem g_wt0 {RQ : List RQE} {m lt lf hn fl ck : Nat} {F w wv v B : Nat → Nat} {bg : Bool} {er : List Nat} {RS : List RSE} {SC : List SCE} {mb : Nat → Bool} {X1 X2 X3 X4 X5 X6 X7 X8 : sA} (h1 : v 1 ≤ 2) (h2 : ¬ v 1 = 2) {Q : Option Value → eH → Prop} (kk : ∀ h, stars [rmo m F (oW w wv lt lf hn fl ck (wtS (v, RQ, RS, SC, er, mb) (!decide (wv 1 = 0))).1) bg, rst (F 6) (wtS (v, RQ, RS, SC, er, mb) (!decide (wv 1 = 0))).2.2.2.2.1 ((wtS (v, RQ, RS, SC, er, mb) (!decide (wv 1 = 0))).1 20) ((wtS (v, RQ, RS, SC, er, mb) (!decide (wv 1 = 0))).2.2.2.2.2 1) ((wtS (v, RQ, RS, SC, er, mb) (!decide (wv 1 = 0))).2.2.2.2.2 2), rrw (F 12) 16 3 ((wtS (v, RQ, RS, SC, er, mb) (!decide (wv 1 = 0))).2.1.map rqE), rrw (F 13) 32 5 ((wtS (v, RQ, RS, SC, er, mb) (!decide (wv 1 = 0))).2.2.1.map rsE), X1, X2, X3, X4, X5, X6, X7, X8] h → EE mX15_oneTick 7 190 0 0 Q 166 [some (.ref m), none, none] [] h 0 0) {h : eH} (hL : stars [pt m (.inr (13, moF F (oW w wv lt lf hn fl ck v) bg)), rst (F 6) er (v 20) (mb 1) (mb 2), rrw (F 12) 16 3 (RQ.map rqE), rrw (F 13) 32 5 (RS.map rsE), X1, X2, X3, X4, X5, X6, X7, X8] h) : EE mX15_oneTick 7 190 0 0 (Q) 79 [some (.ref m), none, none] [] h 0 0 := by
  refine e_aload_n 80 dX15_oneTick_79 rfl rfl ?_
  refine e_get 83 (v := (.int (nI (v 1)))) dX15_oneTick_80 rfl fl_X15_306_13 (stars_at _ 0 hL rfl) rfl ?_
  refine e_iconst 84 (v := (nI 2)) dX15_oneTick_83 rfl (by decide) ?_
  refine e_icmp_ne 166 87 dX15_oneTick_84 rfl rfl (fun c84 => ?_) (fun c84 => ?_)
  · have k84 := j_ne_t (a := (v 1)) (b := 2) (by omega) (by omega) c84
    have hw9 : wtS (v, RQ, RS, SC, er, mb) (!decide (wv 1 = 0)) = (v, RQ, RS, SC, er, mb) := if_neg (fun y => h2 y.1)
    exact kk h (by rw [hw9]; exact hL)
  · have k84 := j_ne_f (a := (v 1)) (b := 2) (by omega) (by omega) c84
    exact absurd k84 h2
