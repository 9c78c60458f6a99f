/-! the reference: a tick of sending, from where the byte is begun -/
set_option maxRecDepth 20000 in
set_option maxHeartbeats 2000000 in
theorem g_so65 {m at9 lt lf hm bb db hn dg wt id9 who qt : Nat} {F w : Nat → Nat} {fr er : List Nat} {sp ov : Bool} {DL : List (Nat × DS)} {X1 X2 : sA} (hfr : fr.length ≤ 260) (hat : at9 < fr.length) (hm9 : hm ≤ 340) (hw : who < 1000) (hlt : lt < 1000) (hlf : 1 ≤ lf ∧ lf ≤ 4) (hq : qt < 1000000) (hby : ∀ x ∈ fr, x < 256) (hl9 : DL.length = 6) (h6 : w 2 ≤ 6) (hok9 : ∀ i s, i < w 2 → (DL.map (·.2))[i]? = some s → okD s ∧ okE s ∧ s.1 20 < 1000000) {Q : Option Value → eH → Prop} (ka : 0 < lt → ∀ h, stars [pt m (.inr (13, moF F (upN (upN (upN (upN (upN (upN (upN (upN (upN (upN (upN (upN w 22 fr.length) 24 at9) 26 (lt - 1)) 27 lf) 28 hm) 29 bb) 30 db) 33 hn) 7 dg) 8 wt) 19 id9) 20 who) true)), pt (F 1) (.inl (6, 6, .inr (.inr (.inr (.inr (adD DL)))))), lst rdve DL, rst (F 6) er qt sp ov, iar (F 21) 260 fr, X1, X2] h → Q (some (.int (nI 0))) h) (kb : lt = 0 → ¬ lf = 1 → ∀ h, stars [pt m (.inr (13, moF F (upN (upN (upN (upN (upN (upN (upN (upN (upN (upN (upN (upN w 22 fr.length) 24 at9) 26 lt) 27 (lf - 1)) 28 hm) 29 bb) 30 db) 33 hn) 7 dg) 8 wt) 19 id9) 20 who) true)), pt (F 1) (.inl (6, 6, .inr (.inr (.inr (.inr (adD DL)))))), lst rdve DL, rst (F 6) er qt sp ov, iar (F 21) 260 fr, X1, X2] h → Q (some (.int (bI (decide (¬ hm = 256))))) h) (kc : lt = 0 → lf = 1 → ∀ DL9 h, DL9.length = 6 → DL9.map (·.2) = (if hm = 256 then (DL.map (·.2)) else dvX (fun i s => if who = 2 + i then s else heD (if hm < 256 then fr.getD at9 0 ^^^ hm else fr.getD at9 0) s) (w 2) (DL.map (·.2))) → stars [pt m (.inr (13, moF F (upN (upN (upN (upN (upN (upN (upN (upN (upN (upN (upN (upN w 22 fr.length) 24 (at9 + 1)) 26 lt) 27 (lf - 1)) 28 hm) 29 bb) 30 (db + 1)) 33 hn) 7 (if at9 + 1 = fr.length ∧ who = 1 then 2 else dg)) 8 (if at9 + 1 = fr.length ∧ who = 1 then 0 else wt)) 19 (if at9 + 1 = fr.length then 0 else id9)) 20 (if at9 + 1 = fr.length then 0 else who)) false)), pt (F 1) (.inl (6, 6, .inr (.inr (.inr (.inr (adD DL9)))))), lst rdve DL9, (if hm = 256 ∨ who = 1 then rst (F 6) er qt sp ov else rst (F 6) (hrR er (if hm < 256 then fr.getD at9 0 ^^^ hm else fr.getD at9 0)) 0 (hrS er qt sp) (hrO er ov)), iar (F 21) 260 fr, X1, X2] h → Q (some (.int (bI (decide (¬ hm = 256))))) h) {h : eH} (hL : stars [pt m (.inr (13, moF F (upN (upN (upN (upN (upN (upN (upN (upN (upN (upN (upN (upN w 22 fr.length) 24 at9) 26 lt) 27 lf) 28 hm) 29 bb) 30 db) 33 hn) 7 dg) 8 wt) 19 id9) 20 who) true)), pt (F 1) (.inl (6, 6, .inr (.inr (.inr (.inr (adD DL)))))), lst rdve DL, rst (F 6) er qt sp ov, iar (F 21) 260 fr, X1, X2] h) : EE mX15_sendsOn 2 60 0 0 (Q) 65 [some (.ref m), none, none] [] h 0 0 := by
  refine e_aload_n 66 dX15_sendsOn_65 rfl rfl ?_
  refine e_get 69 (v := (.int (nI lt))) dX15_sendsOn_66 rfl fl_X15_384_13 (stars_at _ 0 hL rfl) rfl ?_
  refine e_if_le 84 72 dX15_sendsOn_69 rfl rfl (fun c69 => ?_) (fun c69 => ?_)
  · have k69 := j_le0_t (a := lt) (by omega) c69
    refine e_aload_n 85 dX15_sendsOn_84 rfl rfl ?_
    refine e_dup 86 dX15_sendsOn_85 rfl rfl ?_
    refine e_get 89 (v := (.int (nI lf))) dX15_sendsOn_86 rfl fl_X15_387_13 (stars_at _ 0 hL rfl) rfl ?_
    refine e_iconst 90 (v := (nI 1)) dX15_sendsOn_89 rfl (by decide) ?_
    refine e_isub 91 (v := (nI (lf - 1))) dX15_sendsOn_90 rfl (pk_sub (by omega)) ?_
    refine p_put 94 hL 0 (fs' := moF F (upN (upN (upN (upN (upN (upN (upN (upN (upN (upN (upN (upN (upN w 22 fr.length) 24 at9) 26 lt) 27 lf) 28 hm) 29 bb) 30 db) 33 hn) 7 dg) 8 wt) 19 id9) 20 who) 27 (lf - 1)) true) (L' := [pt m (.inr (13, moF F (upN (upN (upN (upN (upN (upN (upN (upN (upN (upN (upN (upN (upN w 22 fr.length) 24 at9) 26 lt) 27 lf) 28 hm) 29 bb) 30 db) 33 hn) 7 dg) 8 wt) 19 id9) 20 who) 27 (lf - 1)) true)), pt (F 1) (.inl (6, 6, .inr (.inr (.inr (.inr (adD DL)))))), lst rdve DL, rst (F 6) er qt sp ov, iar (F 21) 260 fr, X1, X2]) rfl rfl dX15_sendsOn_91 rfl fp_X15_387_13 (Or.inl rfl) (Nat.le_of_ble_eq_true rfl) rfl rfl rfl (fun h hL => ?_)
    refine e_aload_n 95 dX15_sendsOn_94 rfl rfl ?_
    refine e_get 98 (v := (.int (nI (lf - 1)))) dX15_sendsOn_95 rfl fl_X15_387_13 (stars_at _ 0 hL rfl) rfl ?_
    refine e_if_ne 240 101 dX15_sendsOn_98 rfl rfl (fun c98 => ?_) (fun c98 => ?_)
    · have k98 := j_ne0_t (a := (lf - 1)) (by omega) c98
      refine e_aload_n 241 dX15_sendsOn_240 rfl rfl ?_
      refine e_get 244 (v := (.int (nI hm))) dX15_sendsOn_241 rfl fl_X15_381_13 (stars_at _ 0 hL rfl) rfl ?_
      refine e_sipush 247 (v := (nI 256)) dX15_sendsOn_244 rfl (by decide) ?_
      refine e_icmp_eq 254 250 dX15_sendsOn_247 rfl rfl (fun c247 => ?_) (fun c247 => ?_)
      · have k247 := j_eq_t (a := hm) (b := 256) (by omega) (by omega) c247
        refine e_iconst 255 (v := (nI 0)) dX15_sendsOn_254 rfl (by decide) ?_
        exact e_zret dX15_sendsOn_255 rfl (Or.inl (by decide)) (by omega) (by omega) ((by have z := kb (by omega) (by omega) h hL; rw [decide_eq_false (show ¬ ¬ hm = 256 from fun z => z k247)] at z; exact z))
      · have k247 := j_eq_f (a := hm) (b := 256) (by omega) (by omega) c247
        refine e_iconst 251 (v := (nI 1)) dX15_sendsOn_250 rfl (by decide) ?_
        refine e_goto 255 dX15_sendsOn_251 rfl ?_
        exact e_zret dX15_sendsOn_255 rfl (Or.inr (by decide)) (by omega) (by omega) ((by have z := kb (by omega) (by omega) h hL; rw [decide_eq_true (show ¬ hm = 256 from k247)] at z; exact z))
    · have k98 := j_ne0_f (a := (lf - 1)) (by omega) c98
      refine e_aload_n 102 dX15_sendsOn_101 rfl rfl ?_
      refine e_get 105 (v := (.int (nI hm))) dX15_sendsOn_102 rfl fl_X15_381_13 (stars_at _ 0 hL rfl) rfl ?_
      refine e_sipush 108 (v := (nI 256)) dX15_sendsOn_105 rfl (by decide) ?_
      refine e_icmp_ge 128 111 dX15_sendsOn_108 rfl rfl (fun c108 => ?_) (fun c108 => ?_)
      · have k108 := j_ge_t (a := hm) (b := 256) (by omega) (by omega) c108
        refine e_aload_n 129 dX15_sendsOn_128 rfl rfl ?_
        refine e_get 132 (v := (.ref (F 21))) dX15_sendsOn_129 rfl fl_X15_57_13 (stars_at _ 0 hL rfl) rfl ?_
        refine e_aload_n 133 dX15_sendsOn_132 rfl rfl ?_
        refine e_get 136 (v := (.int (nI at9))) dX15_sendsOn_133 rfl fl_X15_349_13 (stars_at _ 0 hL rfl) rfl ?_
        have b136 := gd_lt (i := at9) hby (by decide)
        refine v_iald 137 (r := fr) (iar_V _ 4 hL rfl) (k := at9) (x := (fr.getD at9 0)) dX15_sendsOn_136 rfl (by omega) (by omega) rfl ?_
        refine e_top (v' := (nI (if hm < 256 then fr.getD at9 0 ^^^ hm else fr.getD at9 0))) (by rw [if_neg (show ¬ hm < 256 by omega)]) ?_
        refine e_istore_n 138 (ls' := [some (.ref m), some (.int (nI (if hm < 256 then fr.getD at9 0 ^^^ hm else fr.getD at9 0))), none]) dX15_sendsOn_137 rfl (by decide) rfl ?_
        refine e_aload_n 139 dX15_sendsOn_138 rfl rfl ?_
        refine e_get 142 (v := (.int (nI hm))) dX15_sendsOn_139 rfl fl_X15_381_13 (stars_at _ 0 hL rfl) rfl ?_
        refine e_sipush 145 (v := (nI 256)) dX15_sendsOn_142 rfl (by decide) ?_
        refine e_icmp_eq 200 148 dX15_sendsOn_145 rfl rfl (fun c145 => ?_) (fun c145 => ?_)
        · have k145 := j_eq_t (a := hm) (b := 256) (by omega) (by omega) c145
          have hL : stars [pt m (.inr (13, moF F (upN (upN (upN (upN (upN (upN (upN (upN (upN (upN (upN (upN w 22 fr.length) 24 at9) 26 lt) 27 (lf - 1)) 28 hm) 29 bb) 30 db) 33 hn) 7 dg) 8 wt) 19 id9) 20 who) true)), pt (F 1) (.inl (6, 6, .inr (.inr (.inr (.inr (adD DL)))))), lst rdve DL, rst (F 6) er qt sp ov, iar (F 21) 260 fr, X1, X2] h := hL
          refine e_wk [some (.ref m), none, none] ⟨rfl, trivial⟩ ?_
          exact g_so200 hfr hat hm9 hw (fun h hL => kc (by omega) (by omega) DL h hl9 (if_pos k145).symm (by rw [if_pos (show hm = 256 ∨ who = 1 from Or.inl k145)]; exact hL)) hL
        · have k145 := j_eq_f (a := hm) (b := 256) (by omega) (by omega) c145
          refine e_aload_n 149 dX15_sendsOn_148 rfl rfl ?_
          refine e_get 152 (v := (.int (nI who))) dX15_sendsOn_149 rfl fl_X15_340_13 (stars_at _ 0 hL rfl) rfl ?_
          refine e_iconst 153 (v := (nI 1)) dX15_sendsOn_152 rfl (by decide) ?_
          refine e_icmp_eq 164 156 dX15_sendsOn_153 rfl rfl (fun c153 => ?_) (fun c153 => ?_)
          · have k153 := j_eq_t (a := who) (b := 1) (by omega) (by omega) c153
            refine e_iconst 165 (v := (nI 0)) dX15_sendsOn_164 rfl (by decide) ?_
            refine e_istore_n 166 (ls' := [some (.ref m), some (.int (nI (if hm < 256 then fr.getD at9 0 ^^^ hm else fr.getD at9 0))), some (.int (nI 0))]) dX15_sendsOn_165 rfl (by decide) rfl ?_
            have hL : stars [pt m (.inr (13, moF F (upN (upN (upN (upN (upN (upN (upN (upN (upN (upN (upN (upN w 22 fr.length) 24 at9) 26 lt) 27 (lf - 1)) 28 hm) 29 bb) 30 db) 33 hn) 7 dg) 8 wt) 19 id9) 20 who) true)), pt (F 1) (.inl (6, 6, .inr (.inr (.inr (.inr (adD DL)))))), lst rdve DL, rst (F 6) er qt sp ov, iar (F 21) 260 fr, X1, X2] h := hL
            refine l_hear (w := (upN (upN (upN (upN (upN (upN (upN (upN (upN (upN (upN (upN w 22 fr.length) 24 at9) 26 lt) 27 (lf - 1)) 28 hm) 29 bb) 30 db) 33 hn) 7 dg) 8 wt) 19 id9) 20 who)) (D9 := (DL.map (·.2))) (b := (if hm < 256 then fr.getD at9 0 ^^^ hm else fr.getD at9 0)) (who := who) (by exact h6) (by exact hok9) hw rfl (fun DL9 h hd9 hl8 hL => ?_) _ 0 DL h (Nat.lt_succ_self _) (Nat.zero_le _) rfl hl9 hL
            have hL : stars [pt m (.inr (13, moF F (upN (upN (upN (upN (upN (upN (upN (upN (upN (upN (upN (upN w 22 fr.length) 24 at9) 26 lt) 27 (lf - 1)) 28 hm) 29 bb) 30 db) 33 hn) 7 dg) 8 wt) 19 id9) 20 who) true)), pt (F 1) (.inl (6, 6, .inr (.inr (.inr (.inr (adD DL9)))))), lst rdve DL9, rst (F 6) er qt sp ov, iar (F 21) 260 fr, X1, X2] h := hL
            have hL : stars [pt m (.inr (13, moF F (upN (upN (upN (upN (upN (upN (upN (upN (upN (upN (upN (upN w 22 fr.length) 24 at9) 26 lt) 27 (lf - 1)) 28 hm) 29 bb) 30 db) 33 hn) 7 dg) 8 wt) 19 id9) 20 who) true)), pt (F 1) (.inl (6, 6, .inr (.inr (.inr (.inr (adD DL9)))))), lst rdve DL9, rst (F 6) er qt sp ov, iar (F 21) 260 fr, X1, X2] h := hL
            refine e_wk [some (.ref m), none, none] ⟨rfl, trivial⟩ ?_
            exact g_so200 hfr hat hm9 hw (fun h hL => kc (by omega) (by omega) DL9 h hl8 (hd9.trans (if_neg k145).symm) (by rw [if_pos (show hm = 256 ∨ who = 1 from Or.inr k153)]; exact hL)) hL
          · have k153 := j_eq_f (a := who) (b := 1) (by omega) (by omega) c153
            refine e_aload_n 157 dX15_sendsOn_156 rfl rfl ?_
            refine e_get 160 (v := (.ref (F 6))) dX15_sendsOn_157 rfl fl_X15_25_13 (stars_at _ 0 hL rfl) rfl ?_
            refine e_iload_n 161 dX15_sendsOn_160 rfl rfl ?_
            have hL : stars [rst (F 6) er qt sp ov, pt m (.inr (13, moF F (upN (upN (upN (upN (upN (upN (upN (upN (upN (upN (upN (upN (upN w 22 fr.length) 24 at9) 26 lt) 27 lf) 28 hm) 29 bb) 30 db) 33 hn) 7 dg) 8 wt) 19 id9) 20 who) 27 (lf - 1)) true)), pt (F 1) (.inl (6, 6, .inr (.inr (.inr (.inr (adD DL)))))), lst rdve DL, iar (F 21) 260 fr, X1, X2] h := stars_ixn hL 7 rfl [3, 0, 1, 2, 4, 5, 6] (by decide) rfl
            obtain ⟨sa, hL⟩ := rst_o hL
            have hL : stars [pt (F 6) (.inr (12, [.ref sa, .int (nI er.length), .int (nI qt), .int (bI sp), .int (bI ov)])), iar sa 256 er, pt m (.inr (13, moF F (upN (upN (upN (upN (upN (upN (upN (upN (upN (upN (upN (upN (upN w 22 fr.length) 24 at9) 26 lt) 27 lf) 28 hm) 29 bb) 30 db) 33 hn) 7 dg) 8 wt) 19 id9) 20 who) 27 (lf - 1)) true)), pt (F 1) (.inl (6, 6, .inr (.inr (.inr (.inr (adD DL)))))), lst rdve DL, iar (F 21) 260 fr, X1, X2] h := hL
            refine p_callV 164 hL [0, 1, 2, 3, 4, 5, 6, 7] 8 rfl (by decide) (L1 := [pt (F 6) (.inr (12, [.ref sa, .int (nI er.length), .int (nI qt), .int (bI sp), .int (bI ov)])), iar sa 256 er]) (L2 := [pt m (.inr (13, moF F (upN (upN (upN (upN (upN (upN (upN (upN (upN (upN (upN (upN (upN w 22 fr.length) 24 at9) 26 lt) 27 lf) 28 hm) 29 bb) 30 db) 33 hn) 7 dg) 8 wt) 19 id9) 20 who) 27 (lf - 1)) true)), pt (F 1) (.inl (6, 6, .inr (.inr (.inr (.inr (adD DL)))))), lst rdve DL, iar (F 21) 260 fr, X1, X2]) rfl isO_pt 0 rfl dX15_sendsOn_161 rfl cv_X15_390 (k_X14_hears (s := F 6) (a := sa) hq) rfl rfl (Nat.le_of_ble_eq_true rfl) ⟨by decide, by omega, by omega⟩ (fun r1 L1 h q hL => ?_)
            obtain ⟨rfl, rfl⟩ := q
            have hL : stars [pt (F 6) (.inr (12, [.ref sa, .int (nI (hrR er (if hm < 256 then fr.getD at9 0 ^^^ hm else fr.getD at9 0)).length), .int (nI 0), .int (bI (hrS er qt sp)), .int (bI (hrO er ov))])), iar sa 256 (hrR er (if hm < 256 then fr.getD at9 0 ^^^ hm else fr.getD at9 0)), pt m (.inr (13, moF F (upN (upN (upN (upN (upN (upN (upN (upN (upN (upN (upN (upN (upN w 22 fr.length) 24 at9) 26 lt) 27 lf) 28 hm) 29 bb) 30 db) 33 hn) 7 dg) 8 wt) 19 id9) 20 who) 27 (lf - 1)) true)), pt (F 1) (.inl (6, 6, .inr (.inr (.inr (.inr (adD DL)))))), lst rdve DL, iar (F 21) 260 fr, X1, X2] h := hL
            have hL : stars [rst (F 6) (hrR er (if hm < 256 then fr.getD at9 0 ^^^ hm else fr.getD at9 0)) 0 (hrS er qt sp) (hrO er ov), pt m (.inr (13, moF F (upN (upN (upN (upN (upN (upN (upN (upN (upN (upN (upN (upN (upN w 22 fr.length) 24 at9) 26 lt) 27 lf) 28 hm) 29 bb) 30 db) 33 hn) 7 dg) 8 wt) 19 id9) 20 who) 27 (lf - 1)) true)), pt (F 1) (.inl (6, 6, .inr (.inr (.inr (.inr (adD DL)))))), lst rdve DL, iar (F 21) 260 fr, X1, X2] h := rst_c hL
            refine e_iconst 165 (v := (nI 0)) dX15_sendsOn_164 rfl (by decide) ?_
            refine e_istore_n 166 (ls' := [some (.ref m), some (.int (nI (if hm < 256 then fr.getD at9 0 ^^^ hm else fr.getD at9 0))), some (.int (nI 0))]) dX15_sendsOn_165 rfl (by decide) rfl ?_
            have hL : stars [rst (F 6) (hrR er (if hm < 256 then fr.getD at9 0 ^^^ hm else fr.getD at9 0)) 0 (hrS er qt sp) (hrO er ov), pt m (.inr (13, moF F (upN (upN (upN (upN (upN (upN (upN (upN (upN (upN (upN (upN w 22 fr.length) 24 at9) 26 lt) 27 (lf - 1)) 28 hm) 29 bb) 30 db) 33 hn) 7 dg) 8 wt) 19 id9) 20 who) true)), pt (F 1) (.inl (6, 6, .inr (.inr (.inr (.inr (adD DL)))))), lst rdve DL, iar (F 21) 260 fr, X1, X2] h := hL
            have hL : stars [pt m (.inr (13, moF F (upN (upN (upN (upN (upN (upN (upN (upN (upN (upN (upN (upN w 22 fr.length) 24 at9) 26 lt) 27 (lf - 1)) 28 hm) 29 bb) 30 db) 33 hn) 7 dg) 8 wt) 19 id9) 20 who) true)), pt (F 1) (.inl (6, 6, .inr (.inr (.inr (.inr (adD DL)))))), lst rdve DL, rst (F 6) (hrR er (if hm < 256 then fr.getD at9 0 ^^^ hm else fr.getD at9 0)) 0 (hrS er qt sp) (hrO er ov), iar (F 21) 260 fr, X1, X2] h := stars_ixn hL 7 rfl [1, 2, 3, 0, 4, 5, 6] (by decide) rfl
            refine l_hear (w := (upN (upN (upN (upN (upN (upN (upN (upN (upN (upN (upN (upN w 22 fr.length) 24 at9) 26 lt) 27 (lf - 1)) 28 hm) 29 bb) 30 db) 33 hn) 7 dg) 8 wt) 19 id9) 20 who)) (D9 := (DL.map (·.2))) (b := (if hm < 256 then fr.getD at9 0 ^^^ hm else fr.getD at9 0)) (who := who) (by exact h6) (by exact hok9) hw rfl (fun DL9 h hd9 hl8 hL => ?_) _ 0 DL h (Nat.lt_succ_self _) (Nat.zero_le _) rfl hl9 hL
            have hL : stars [pt m (.inr (13, moF F (upN (upN (upN (upN (upN (upN (upN (upN (upN (upN (upN (upN w 22 fr.length) 24 at9) 26 lt) 27 (lf - 1)) 28 hm) 29 bb) 30 db) 33 hn) 7 dg) 8 wt) 19 id9) 20 who) true)), pt (F 1) (.inl (6, 6, .inr (.inr (.inr (.inr (adD DL9)))))), lst rdve DL9, rst (F 6) (hrR er (if hm < 256 then fr.getD at9 0 ^^^ hm else fr.getD at9 0)) 0 (hrS er qt sp) (hrO er ov), iar (F 21) 260 fr, X1, X2] h := hL
            have hL : stars [pt m (.inr (13, moF F (upN (upN (upN (upN (upN (upN (upN (upN (upN (upN (upN (upN w 22 fr.length) 24 at9) 26 lt) 27 (lf - 1)) 28 hm) 29 bb) 30 db) 33 hn) 7 dg) 8 wt) 19 id9) 20 who) true)), pt (F 1) (.inl (6, 6, .inr (.inr (.inr (.inr (adD DL9)))))), lst rdve DL9, rst (F 6) (hrR er (if hm < 256 then fr.getD at9 0 ^^^ hm else fr.getD at9 0)) 0 (hrS er qt sp) (hrO er ov), iar (F 21) 260 fr, X1, X2] h := hL
            refine e_wk [some (.ref m), none, none] ⟨rfl, trivial⟩ ?_
            exact g_so200 hfr hat hm9 hw (fun h hL => kc (by omega) (by omega) DL9 h hl8 (hd9.trans (if_neg k145).symm) (by rw [if_neg (show ¬ (hm = 256 ∨ who = 1) from fun z => z.elim k145 k153)]; exact hL)) hL
      · have k108 := j_ge_f (a := hm) (b := 256) (by omega) (by omega) c108
        refine e_aload_n 112 dX15_sendsOn_111 rfl rfl ?_
        refine e_get 115 (v := (.ref (F 21))) dX15_sendsOn_112 rfl fl_X15_57_13 (stars_at _ 0 hL rfl) rfl ?_
        refine e_aload_n 116 dX15_sendsOn_115 rfl rfl ?_
        refine e_get 119 (v := (.int (nI at9))) dX15_sendsOn_116 rfl fl_X15_349_13 (stars_at _ 0 hL rfl) rfl ?_
        have b119 := gd_lt (i := at9) hby (by decide)
        refine v_iald 120 (r := fr) (iar_V _ 4 hL rfl) (k := at9) (x := (fr.getD at9 0)) dX15_sendsOn_119 rfl (by omega) (by omega) rfl ?_
        refine e_aload_n 121 dX15_sendsOn_120 rfl rfl ?_
        refine e_get 124 (v := (.int (nI hm))) dX15_sendsOn_121 rfl fl_X15_381_13 (stars_at _ 0 hL rfl) rfl ?_
        refine e_ixor 125 (v := (nI (fr.getD at9 0 ^^^ hm))) dX15_sendsOn_124 rfl (nx_xor _ _) ?_
        refine e_goto 137 dX15_sendsOn_125 rfl ?_
        refine e_top (v' := (nI (if hm < 256 then fr.getD at9 0 ^^^ hm else fr.getD at9 0))) (by rw [if_pos (show hm < 256 by omega)]) ?_
        refine e_istore_n 138 (ls' := [some (.ref m), some (.int (nI (if hm < 256 then fr.getD at9 0 ^^^ hm else fr.getD at9 0))), none]) dX15_sendsOn_137 rfl (by decide) rfl ?_
        refine e_aload_n 139 dX15_sendsOn_138 rfl rfl ?_
        refine e_get 142 (v := (.int (nI hm))) dX15_sendsOn_139 rfl fl_X15_381_13 (stars_at _ 0 hL rfl) rfl ?_
        refine e_sipush 145 (v := (nI 256)) dX15_sendsOn_142 rfl (by decide) ?_
        refine e_icmp_eq 200 148 dX15_sendsOn_145 rfl rfl (fun c145 => ?_) (fun c145 => ?_)
        · have k145 := j_eq_t (a := hm) (b := 256) (by omega) (by omega) c145
          have hL : stars [pt m (.inr (13, moF F (upN (upN (upN (upN (upN (upN (upN (upN (upN (upN (upN (upN w 22 fr.length) 24 at9) 26 lt) 27 (lf - 1)) 28 hm) 29 bb) 30 db) 33 hn) 7 dg) 8 wt) 19 id9) 20 who) true)), pt (F 1) (.inl (6, 6, .inr (.inr (.inr (.inr (adD DL)))))), lst rdve DL, rst (F 6) er qt sp ov, iar (F 21) 260 fr, X1, X2] h := hL
          refine e_wk [some (.ref m), none, none] ⟨rfl, trivial⟩ ?_
          exact g_so200 hfr hat hm9 hw (fun h hL => kc (by omega) (by omega) DL h hl9 (if_pos k145).symm (by rw [if_pos (show hm = 256 ∨ who = 1 from Or.inl k145)]; exact hL)) hL
        · have k145 := j_eq_f (a := hm) (b := 256) (by omega) (by omega) c145
          refine e_aload_n 149 dX15_sendsOn_148 rfl rfl ?_
          refine e_get 152 (v := (.int (nI who))) dX15_sendsOn_149 rfl fl_X15_340_13 (stars_at _ 0 hL rfl) rfl ?_
          refine e_iconst 153 (v := (nI 1)) dX15_sendsOn_152 rfl (by decide) ?_
          refine e_icmp_eq 164 156 dX15_sendsOn_153 rfl rfl (fun c153 => ?_) (fun c153 => ?_)
          · have k153 := j_eq_t (a := who) (b := 1) (by omega) (by omega) c153
            refine e_iconst 165 (v := (nI 0)) dX15_sendsOn_164 rfl (by decide) ?_
            refine e_istore_n 166 (ls' := [some (.ref m), some (.int (nI (if hm < 256 then fr.getD at9 0 ^^^ hm else fr.getD at9 0))), some (.int (nI 0))]) dX15_sendsOn_165 rfl (by decide) rfl ?_
            have hL : stars [pt m (.inr (13, moF F (upN (upN (upN (upN (upN (upN (upN (upN (upN (upN (upN (upN w 22 fr.length) 24 at9) 26 lt) 27 (lf - 1)) 28 hm) 29 bb) 30 db) 33 hn) 7 dg) 8 wt) 19 id9) 20 who) true)), pt (F 1) (.inl (6, 6, .inr (.inr (.inr (.inr (adD DL)))))), lst rdve DL, rst (F 6) er qt sp ov, iar (F 21) 260 fr, X1, X2] h := hL
            refine l_hear (w := (upN (upN (upN (upN (upN (upN (upN (upN (upN (upN (upN (upN w 22 fr.length) 24 at9) 26 lt) 27 (lf - 1)) 28 hm) 29 bb) 30 db) 33 hn) 7 dg) 8 wt) 19 id9) 20 who)) (D9 := (DL.map (·.2))) (b := (if hm < 256 then fr.getD at9 0 ^^^ hm else fr.getD at9 0)) (who := who) (by exact h6) (by exact hok9) hw rfl (fun DL9 h hd9 hl8 hL => ?_) _ 0 DL h (Nat.lt_succ_self _) (Nat.zero_le _) rfl hl9 hL
            have hL : stars [pt m (.inr (13, moF F (upN (upN (upN (upN (upN (upN (upN (upN (upN (upN (upN (upN w 22 fr.length) 24 at9) 26 lt) 27 (lf - 1)) 28 hm) 29 bb) 30 db) 33 hn) 7 dg) 8 wt) 19 id9) 20 who) true)), pt (F 1) (.inl (6, 6, .inr (.inr (.inr (.inr (adD DL9)))))), lst rdve DL9, rst (F 6) er qt sp ov, iar (F 21) 260 fr, X1, X2] h := hL
            have hL : stars [pt m (.inr (13, moF F (upN (upN (upN (upN (upN (upN (upN (upN (upN (upN (upN (upN w 22 fr.length) 24 at9) 26 lt) 27 (lf - 1)) 28 hm) 29 bb) 30 db) 33 hn) 7 dg) 8 wt) 19 id9) 20 who) true)), pt (F 1) (.inl (6, 6, .inr (.inr (.inr (.inr (adD DL9)))))), lst rdve DL9, rst (F 6) er qt sp ov, iar (F 21) 260 fr, X1, X2] h := hL
            refine e_wk [some (.ref m), none, none] ⟨rfl, trivial⟩ ?_
            exact g_so200 hfr hat hm9 hw (fun h hL => kc (by omega) (by omega) DL9 h hl8 (hd9.trans (if_neg k145).symm) (by rw [if_pos (show hm = 256 ∨ who = 1 from Or.inr k153)]; exact hL)) hL
          · have k153 := j_eq_f (a := who) (b := 1) (by omega) (by omega) c153
            refine e_aload_n 157 dX15_sendsOn_156 rfl rfl ?_
            refine e_get 160 (v := (.ref (F 6))) dX15_sendsOn_157 rfl fl_X15_25_13 (stars_at _ 0 hL rfl) rfl ?_
            refine e_iload_n 161 dX15_sendsOn_160 rfl rfl ?_
            have hL : stars [rst (F 6) er qt sp ov, pt m (.inr (13, moF F (upN (upN (upN (upN (upN (upN (upN (upN (upN (upN (upN (upN (upN w 22 fr.length) 24 at9) 26 lt) 27 lf) 28 hm) 29 bb) 30 db) 33 hn) 7 dg) 8 wt) 19 id9) 20 who) 27 (lf - 1)) true)), pt (F 1) (.inl (6, 6, .inr (.inr (.inr (.inr (adD DL)))))), lst rdve DL, iar (F 21) 260 fr, X1, X2] h := stars_ixn hL 7 rfl [3, 0, 1, 2, 4, 5, 6] (by decide) rfl
            obtain ⟨sa, hL⟩ := rst_o hL
            have hL : stars [pt (F 6) (.inr (12, [.ref sa, .int (nI er.length), .int (nI qt), .int (bI sp), .int (bI ov)])), iar sa 256 er, pt m (.inr (13, moF F (upN (upN (upN (upN (upN (upN (upN (upN (upN (upN (upN (upN (upN w 22 fr.length) 24 at9) 26 lt) 27 lf) 28 hm) 29 bb) 30 db) 33 hn) 7 dg) 8 wt) 19 id9) 20 who) 27 (lf - 1)) true)), pt (F 1) (.inl (6, 6, .inr (.inr (.inr (.inr (adD DL)))))), lst rdve DL, iar (F 21) 260 fr, X1, X2] h := hL
            refine p_callV 164 hL [0, 1, 2, 3, 4, 5, 6, 7] 8 rfl (by decide) (L1 := [pt (F 6) (.inr (12, [.ref sa, .int (nI er.length), .int (nI qt), .int (bI sp), .int (bI ov)])), iar sa 256 er]) (L2 := [pt m (.inr (13, moF F (upN (upN (upN (upN (upN (upN (upN (upN (upN (upN (upN (upN (upN w 22 fr.length) 24 at9) 26 lt) 27 lf) 28 hm) 29 bb) 30 db) 33 hn) 7 dg) 8 wt) 19 id9) 20 who) 27 (lf - 1)) true)), pt (F 1) (.inl (6, 6, .inr (.inr (.inr (.inr (adD DL)))))), lst rdve DL, iar (F 21) 260 fr, X1, X2]) rfl isO_pt 0 rfl dX15_sendsOn_161 rfl cv_X15_390 (k_X14_hears (s := F 6) (a := sa) hq) rfl rfl (Nat.le_of_ble_eq_true rfl) ⟨by decide, by omega, by omega⟩ (fun r1 L1 h q hL => ?_)
            obtain ⟨rfl, rfl⟩ := q
            have hL : stars [pt (F 6) (.inr (12, [.ref sa, .int (nI (hrR er (if hm < 256 then fr.getD at9 0 ^^^ hm else fr.getD at9 0)).length), .int (nI 0), .int (bI (hrS er qt sp)), .int (bI (hrO er ov))])), iar sa 256 (hrR er (if hm < 256 then fr.getD at9 0 ^^^ hm else fr.getD at9 0)), pt m (.inr (13, moF F (upN (upN (upN (upN (upN (upN (upN (upN (upN (upN (upN (upN (upN w 22 fr.length) 24 at9) 26 lt) 27 lf) 28 hm) 29 bb) 30 db) 33 hn) 7 dg) 8 wt) 19 id9) 20 who) 27 (lf - 1)) true)), pt (F 1) (.inl (6, 6, .inr (.inr (.inr (.inr (adD DL)))))), lst rdve DL, iar (F 21) 260 fr, X1, X2] h := hL
            have hL : stars [rst (F 6) (hrR er (if hm < 256 then fr.getD at9 0 ^^^ hm else fr.getD at9 0)) 0 (hrS er qt sp) (hrO er ov), pt m (.inr (13, moF F (upN (upN (upN (upN (upN (upN (upN (upN (upN (upN (upN (upN (upN w 22 fr.length) 24 at9) 26 lt) 27 lf) 28 hm) 29 bb) 30 db) 33 hn) 7 dg) 8 wt) 19 id9) 20 who) 27 (lf - 1)) true)), pt (F 1) (.inl (6, 6, .inr (.inr (.inr (.inr (adD DL)))))), lst rdve DL, iar (F 21) 260 fr, X1, X2] h := rst_c hL
            refine e_iconst 165 (v := (nI 0)) dX15_sendsOn_164 rfl (by decide) ?_
            refine e_istore_n 166 (ls' := [some (.ref m), some (.int (nI (if hm < 256 then fr.getD at9 0 ^^^ hm else fr.getD at9 0))), some (.int (nI 0))]) dX15_sendsOn_165 rfl (by decide) rfl ?_
            have hL : stars [rst (F 6) (hrR er (if hm < 256 then fr.getD at9 0 ^^^ hm else fr.getD at9 0)) 0 (hrS er qt sp) (hrO er ov), pt m (.inr (13, moF F (upN (upN (upN (upN (upN (upN (upN (upN (upN (upN (upN (upN w 22 fr.length) 24 at9) 26 lt) 27 (lf - 1)) 28 hm) 29 bb) 30 db) 33 hn) 7 dg) 8 wt) 19 id9) 20 who) true)), pt (F 1) (.inl (6, 6, .inr (.inr (.inr (.inr (adD DL)))))), lst rdve DL, iar (F 21) 260 fr, X1, X2] h := hL
            have hL : stars [pt m (.inr (13, moF F (upN (upN (upN (upN (upN (upN (upN (upN (upN (upN (upN (upN w 22 fr.length) 24 at9) 26 lt) 27 (lf - 1)) 28 hm) 29 bb) 30 db) 33 hn) 7 dg) 8 wt) 19 id9) 20 who) true)), pt (F 1) (.inl (6, 6, .inr (.inr (.inr (.inr (adD DL)))))), lst rdve DL, rst (F 6) (hrR er (if hm < 256 then fr.getD at9 0 ^^^ hm else fr.getD at9 0)) 0 (hrS er qt sp) (hrO er ov), iar (F 21) 260 fr, X1, X2] h := stars_ixn hL 7 rfl [1, 2, 3, 0, 4, 5, 6] (by decide) rfl
            refine l_hear (w := (upN (upN (upN (upN (upN (upN (upN (upN (upN (upN (upN (upN w 22 fr.length) 24 at9) 26 lt) 27 (lf - 1)) 28 hm) 29 bb) 30 db) 33 hn) 7 dg) 8 wt) 19 id9) 20 who)) (D9 := (DL.map (·.2))) (b := (if hm < 256 then fr.getD at9 0 ^^^ hm else fr.getD at9 0)) (who := who) (by exact h6) (by exact hok9) hw rfl (fun DL9 h hd9 hl8 hL => ?_) _ 0 DL h (Nat.lt_succ_self _) (Nat.zero_le _) rfl hl9 hL
            have hL : stars [pt m (.inr (13, moF F (upN (upN (upN (upN (upN (upN (upN (upN (upN (upN (upN (upN w 22 fr.length) 24 at9) 26 lt) 27 (lf - 1)) 28 hm) 29 bb) 30 db) 33 hn) 7 dg) 8 wt) 19 id9) 20 who) true)), pt (F 1) (.inl (6, 6, .inr (.inr (.inr (.inr (adD DL9)))))), lst rdve DL9, rst (F 6) (hrR er (if hm < 256 then fr.getD at9 0 ^^^ hm else fr.getD at9 0)) 0 (hrS er qt sp) (hrO er ov), iar (F 21) 260 fr, X1, X2] h := hL
            have hL : stars [pt m (.inr (13, moF F (upN (upN (upN (upN (upN (upN (upN (upN (upN (upN (upN (upN w 22 fr.length) 24 at9) 26 lt) 27 (lf - 1)) 28 hm) 29 bb) 30 db) 33 hn) 7 dg) 8 wt) 19 id9) 20 who) true)), pt (F 1) (.inl (6, 6, .inr (.inr (.inr (.inr (adD DL9)))))), lst rdve DL9, rst (F 6) (hrR er (if hm < 256 then fr.getD at9 0 ^^^ hm else fr.getD at9 0)) 0 (hrS er qt sp) (hrO er ov), iar (F 21) 260 fr, X1, X2] h := hL
            refine e_wk [some (.ref m), none, none] ⟨rfl, trivial⟩ ?_
            exact g_so200 hfr hat hm9 hw (fun h hL => kc (by omega) (by omega) DL9 h hl8 (hd9.trans (if_neg k145).symm) (by rw [if_neg (show ¬ (hm = 256 ∨ who = 1) from fun z => z.elim k145 k153)]; exact hL)) hL
  · have k69 := j_le0_f (a := lt) (by omega) c69
    refine e_aload_n 73 dX15_sendsOn_72 rfl rfl ?_
    refine e_dup 74 dX15_sendsOn_73 rfl rfl ?_
    refine e_get 77 (v := (.int (nI lt))) dX15_sendsOn_74 rfl fl_X15_384_13 (stars_at _ 0 hL rfl) rfl ?_
    refine e_iconst 78 (v := (nI 1)) dX15_sendsOn_77 rfl (by decide) ?_
    refine e_isub 79 (v := (nI (lt - 1))) dX15_sendsOn_78 rfl (pk_sub (by omega)) ?_
    refine p_put 82 hL 0 (fs' := moF F (upN (upN (upN (upN (upN (upN (upN (upN (upN (upN (upN (upN (upN w 22 fr.length) 24 at9) 26 lt) 27 lf) 28 hm) 29 bb) 30 db) 33 hn) 7 dg) 8 wt) 19 id9) 20 who) 26 (lt - 1)) true) (L' := [pt m (.inr (13, moF F (upN (upN (upN (upN (upN (upN (upN (upN (upN (upN (upN (upN (upN w 22 fr.length) 24 at9) 26 lt) 27 lf) 28 hm) 29 bb) 30 db) 33 hn) 7 dg) 8 wt) 19 id9) 20 who) 26 (lt - 1)) true)), pt (F 1) (.inl (6, 6, .inr (.inr (.inr (.inr (adD DL)))))), lst rdve DL, rst (F 6) er qt sp ov, iar (F 21) 260 fr, X1, X2]) rfl rfl dX15_sendsOn_79 rfl fp_X15_384_13 (Or.inl rfl) (Nat.le_of_ble_eq_true rfl) rfl rfl rfl (fun h hL => ?_)
    refine e_iconst 83 (v := (nI 0)) dX15_sendsOn_82 rfl (by decide) ?_
    have hL : stars [pt m (.inr (13, moF F (upN (upN (upN (upN (upN (upN (upN (upN (upN (upN (upN (upN w 22 fr.length) 24 at9) 26 (lt - 1)) 27 lf) 28 hm) 29 bb) 30 db) 33 hn) 7 dg) 8 wt) 19 id9) 20 who) true)), pt (F 1) (.inl (6, 6, .inr (.inr (.inr (.inr (adD DL)))))), lst rdve DL, rst (F 6) er qt sp ov, iar (F 21) 260 fr, X1, X2] h := hL
    exact e_zret dX15_sendsOn_83 rfl (Or.inl (by decide)) (by omega) (by omega) (ka (by omega) h hL)
