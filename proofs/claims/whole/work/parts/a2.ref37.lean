/-! the reference: all devices, one behind the other -/
set_option maxRecDepth 20000 in
set_option maxHeartbeats 2000000 in
theorem l_ob {m : Nat} {F w : Nat → Nat} {bg : Bool} {D9 : List DS} {X1 X2 X3 X4 X5 X6 X7 X8 X9 : sA} (h6 : w 2 ≤ 6) (hok9 : ∀ i s, i < w 2 → D9[i]? = some s → okD s ∧ okE s ∧ s.1 20 < 1000000) {Q : Option Value → eH → Prop} (kk : ∀ DL h, DL.map (·.2) = dvX (fun _ s => arD s) (w 2) D9 → DL.length = 6 → stars [pt m (.inr (13, moF F w bg)), pt (F 1) (.inl (6, 6, .inr (.inr (.inr (.inr (adD DL)))))), lst rdve DL, X1, X2, X3, X4, X5, X6, X7, X8, X9] h → EE mX15_oneTick 7 190 0 0 Q 35 [some (.ref m), none, none] [] h 0 0) : ∀ (n : Nat) (i : Nat) (DL : List (Nat × DS)) (h : eH), w 2 - i < n → i ≤ w 2 → DL.map (·.2) = dvX (fun _ s => arD s) i D9 → DL.length = 6 → stars [pt m (.inr (13, moF F w bg)), pt (F 1) (.inl (6, 6, .inr (.inr (.inr (.inr (adD DL)))))), lst rdve DL, X1, X2, X3, X4, X5, X6, X7, X8, X9] h → EE mX15_oneTick 7 190 0 0 (Q) 12 [some (.ref m), some (.int (nI i)), none] [] h 0 0 := by
  intro n
  induction n with
  | zero => intro i DL h hlt hle hD hl9 hL; exact absurd hlt (by omega)
  | succ n ih =>
    intro i DL h hlt hle hD hl9 hL
    refine e_iload_n 13 dX15_oneTick_12 rfl rfl ?_
    refine e_aload_n 14 dX15_oneTick_13 rfl rfl ?_
    refine e_get 17 (v := (.int (nI (w 2)))) dX15_oneTick_14 rfl fl_X15_78_13 (stars_at _ 0 hL rfl) rfl ?_
    refine e_icmp_ge 35 20 dX15_oneTick_17 rfl rfl (fun c17 => ?_) (fun c17 => ?_)
    · have k17 := j_ge_t (a := i) (b := (w 2)) (by omega) (by omega) c17
      refine e_wk [some (.ref m), none, none] ⟨rfl, trivial⟩ ?_
      exact kk DL h (by rw [hD, show i = w 2 by omega]) hl9 hL
    · have k17 := j_ge_f (a := i) (b := (w 2)) (by omega) (by omega) c17
      obtain ⟨⟨d, s⟩, he⟩ : ∃ e, DL[i]? = some e := ⟨_, List.getElem?_eq_getElem (show i < DL.length by omega)⟩
      have hsD := dv_at hD he
      obtain ⟨hok, hoe, h20⟩ := hok9 i s (by omega) hsD
      refine e_aload_n 21 dX15_oneTick_20 rfl rfl ?_
      refine e_get 24 (v := (.ref (F 1))) dX15_oneTick_21 rfl fl_X15_9_13 (stars_at _ 0 hL rfl) rfl ?_
      refine e_iload_n 25 dX15_oneTick_24 rfl rfl ?_
      refine p_aaldD 26 hL 1 (v := d) (k := i) rfl (adD_at he) dX15_oneTick_25 rfl (by omega) ?_
      have hL : stars [lst rdve DL, pt m (.inr (13, moF F w bg)), pt (F 1) (.inl (6, 6, .inr (.inr (.inr (.inr (adD DL)))))), X1, X2, X3, X4, X5, X6, X7, X8, X9] h := stars_ixn hL 12 rfl [2, 0, 1, 3, 4, 5, 6, 7, 8, 9, 10, 11] (by decide) rfl
      have hL : stars [rdv d s, lst rdve (DL.eraseIdx i), pt m (.inr (13, moF F w bg)), pt (F 1) (.inl (6, 6, .inr (.inr (.inr (.inr (adD DL)))))), X1, X2, X3, X4, X5, X6, X7, X8, X9] h := lst_o i he hL
      refine p_callS 29 hL [0, 1, 2, 3, 4, 5, 6, 7, 8, 9, 10, 11, 12] 13 rfl (by decide) (L1 := [rdv d s]) (L2 := [lst rdve (DL.eraseIdx i), pt m (.inr (13, moF F w bg)), pt (F 1) (.inl (6, 6, .inr (.inr (.inr (.inr (adD DL)))))), X1, X2, X3, X4, X5, X6, X7, X8, X9]) rfl dX15_oneTick_26 rfl cs_X15_403 (k_X15_obeys hoe hok.2.2.2.1 hok.2.2.2.2.2.1) rfl rfl (Nat.le_of_ble_eq_true rfl) ⟨by decide, by omega, by omega⟩ (fun r1 L1 h q hL => ?_)
      obtain ⟨rfl, rfl⟩ := q
      have hL : stars [rdv d (arD s), lst rdve (DL.eraseIdx i), pt m (.inr (13, moF F w bg)), pt (F 1) (.inl (6, 6, .inr (.inr (.inr (.inr (adD DL)))))), X1, X2, X3, X4, X5, X6, X7, X8, X9] h := hL
      have hL : stars [lst rdve (DL.set i (d, (arD s))), pt m (.inr (13, moF F w bg)), pt (F 1) (.inl (6, 6, .inr (.inr (.inr (.inr (adD DL)))))), X1, X2, X3, X4, X5, X6, X7, X8, X9] h := lst_c (f := rdve) (x := (d, (arD s))) i (by omega) hL
      rw [adD_set he (arD s)] at hL
      have hL : stars [lst rdve (DL.set i (d, (arD s))), pt m (.inr (13, moF F w bg)), pt (F 1) (.inl (6, 6, .inr (.inr (.inr (.inr (adD (DL.set i (d, (arD s))))))))), X1, X2, X3, X4, X5, X6, X7, X8, X9] h := hL
      refine e_iinc 32 (v := (nI (i + 1))) (ls' := [some (.ref m), some (.int (nI (i + 1))), none]) dX15_oneTick_29 rfl rfl (nI_add i 1) (by decide) rfl ?_
      refine e_goto 12 dX15_oneTick_32 rfl ?_
      have hL : stars [pt m (.inr (13, moF F w bg)), pt (F 1) (.inl (6, 6, .inr (.inr (.inr (.inr (adD (DL.set i (d, (arD s))))))))), lst rdve (DL.set i (d, (arD s))), X1, X2, X3, X4, X5, X6, X7, X8, X9] h := stars_ixn hL 12 rfl [1, 2, 0, 3, 4, 5, 6, 7, 8, 9, 10, 11] (by decide) rfl
      refine e_wk [some (.ref m), some (.int (nI (i + 1))), none] ⟨rfl, rfl, trivial⟩ ?_
      exact ih (i + 1) (DL.set i (d, (arD s))) h (by omega) (by omega) (dv_set hD he rfl) (by rw [List.length_set]; exact hl9) hL
set_option maxRecDepth 20000 in
set_option maxHeartbeats 2000000 in
theorem l_lag {m : Nat} {F w : Nat → Nat} {bg : Bool} {D9 : List DS} {X1 X2 X3 X4 X5 X6 X7 X8 X9 : sA} (h6 : w 2 ≤ 6) (hok9 : ∀ i s, i < w 2 → D9[i]? = some s → okD s ∧ okE s ∧ s.1 20 < 1000000) {Q : Option Value → eH → Prop} (kk : ∀ DL h, DL.map (·.2) = dvX (fun _ s => slD s) (w 2) D9 → DL.length = 6 → stars [pt m (.inr (13, moF F w bg)), pt (F 1) (.inl (6, 6, .inr (.inr (.inr (.inr (adD DL)))))), lst rdve DL, X1, X2, X3, X4, X5, X6, X7, X8, X9] h → EE mX15_oneTick 7 190 0 0 Q 221 [some (.ref m), none, none] [] h 0 0) : ∀ (n : Nat) (i : Nat) (DL : List (Nat × DS)) (h : eH), w 2 - i < n → i ≤ w 2 → DL.map (·.2) = dvX (fun _ s => slD s) i D9 → DL.length = 6 → stars [pt m (.inr (13, moF F w bg)), pt (F 1) (.inl (6, 6, .inr (.inr (.inr (.inr (adD DL)))))), lst rdve DL, X1, X2, X3, X4, X5, X6, X7, X8, X9] h → EE mX15_oneTick 7 190 0 0 (Q) 168 [some (.ref m), some (.int (nI i)), none] [] h 0 0 := by
  intro n
  induction n with
  | zero => intro i DL h hlt hle hD hl9 hL; exact absurd hlt (by omega)
  | succ n ih =>
    intro i DL h hlt hle hD hl9 hL
    refine e_iload_n 169 dX15_oneTick_168 rfl rfl ?_
    refine e_aload_n 170 dX15_oneTick_169 rfl rfl ?_
    refine e_get 173 (v := (.int (nI (w 2)))) dX15_oneTick_170 rfl fl_X15_78_13 (stars_at _ 0 hL rfl) rfl ?_
    refine e_icmp_ge 221 176 dX15_oneTick_173 rfl rfl (fun c173 => ?_) (fun c173 => ?_)
    · have k173 := j_ge_t (a := i) (b := (w 2)) (by omega) (by omega) c173
      refine e_wk [some (.ref m), none, none] ⟨rfl, trivial⟩ ?_
      exact kk DL h (by rw [hD, show i = w 2 by omega]) hl9 hL
    · have k173 := j_ge_f (a := i) (b := (w 2)) (by omega) (by omega) c173
      obtain ⟨⟨d, s⟩, he⟩ : ∃ e, DL[i]? = some e := ⟨_, List.getElem?_eq_getElem (show i < DL.length by omega)⟩
      have hsD := dv_at hD he
      obtain ⟨hok, hoe, h20⟩ := hok9 i s (by omega) hsD
      have l7 := (okE_ln hoe).2.2.2.1
      have l70 := (okE_ln hoe).2.2.2.2
      have h17 : s.1 17 ≤ 2000 := hok.2.2.2.2.2.2.2.2.2.2.2.2.2.2.2
      refine e_aload_n 177 dX15_oneTick_176 rfl rfl ?_
      refine e_get 180 (v := (.ref (F 1))) dX15_oneTick_177 rfl fl_X15_9_13 (stars_at _ 0 hL rfl) rfl ?_
      refine e_iload_n 181 dX15_oneTick_180 rfl rfl ?_
      refine p_aaldD 182 hL 1 (v := d) (k := i) rfl (adD_at he) dX15_oneTick_181 rfl (by omega) ?_
      have hL : stars [lst rdve DL, pt m (.inr (13, moF F w bg)), pt (F 1) (.inl (6, 6, .inr (.inr (.inr (.inr (adD DL)))))), X1, X2, X3, X4, X5, X6, X7, X8, X9] h := stars_ixn hL 12 rfl [2, 0, 1, 3, 4, 5, 6, 7, 8, 9, 10, 11] (by decide) rfl
      have hL : stars [rdv d s, lst rdve (DL.eraseIdx i), pt m (.inr (13, moF F w bg)), pt (F 1) (.inl (6, 6, .inr (.inr (.inr (.inr (adD DL)))))), X1, X2, X3, X4, X5, X6, X7, X8, X9] h := lst_o i he hL
      obtain ⟨A182, v182_0, v182_1, v182_2, v182_3, v182_4, v182_5, v182_6, v182_7, v182_8, v182_9, v182_10, v182_11, v182_12, v182_13, v182_14, v182_15, v182_16, v182_17, v182_18, v182_19, v182_20, v182_21⟩ := rdv_V _ 0 hL rfl
      refine e_get 185 (v := (.int (nI (dL s 7).length))) dX15_oneTick_182 rfl fl_X15_260_10 v182_0 rfl ?_
      refine e_if_le 215 188 dX15_oneTick_185 rfl rfl (fun c185 => ?_) (fun c185 => ?_)
      · have k185 := j_le0_t (a := (dL s 7).length) (by omega) c185
        have hL : stars [lst rdve DL, pt m (.inr (13, moF F w bg)), pt (F 1) (.inl (6, 6, .inr (.inr (.inr (.inr (adD DL)))))), X1, X2, X3, X4, X5, X6, X7, X8, X9] h := lst_b (f := rdve) i he hL
        refine e_iinc 218 (v := (nI (i + 1))) (ls' := [some (.ref m), some (.int (nI (i + 1))), none]) dX15_oneTick_215 rfl rfl (nI_add i 1) (by decide) rfl ?_
        refine e_goto 168 dX15_oneTick_218 rfl ?_
        have hL : stars [pt m (.inr (13, moF F w bg)), pt (F 1) (.inl (6, 6, .inr (.inr (.inr (.inr (adD DL)))))), lst rdve DL, X1, X2, X3, X4, X5, X6, X7, X8, X9] h := stars_ixn hL 12 rfl [1, 2, 0, 3, 4, 5, 6, 7, 8, 9, 10, 11] (by decide) rfl
        refine e_wk [some (.ref m), some (.int (nI (i + 1))), none] ⟨rfl, rfl, trivial⟩ ?_
        exact ih (i + 1) DL h (by omega) (by omega) (dv_id hD he (if_neg (show ¬ 0 < s.1 17 by (have := l70 (by omega); omega)))) hl9 hL
      · have k185 := j_le0_f (a := (dL s 7).length) (by omega) c185
        refine e_aload_n 189 dX15_oneTick_188 rfl rfl ?_
        refine e_get 192 (v := (.ref (F 1))) dX15_oneTick_189 rfl fl_X15_9_13 (stars_at _ 2 hL rfl) rfl ?_
        refine e_iload_n 193 dX15_oneTick_192 rfl rfl ?_
        refine p_aaldD 194 hL 3 (v := d) (k := i) rfl (adD_at he) dX15_oneTick_193 rfl (by omega) ?_
        refine e_get 197 (v := (.int (nI (s.1 17)))) dX15_oneTick_194 rfl fl_X15_266_10 v182_0 rfl ?_
        refine e_if_le 215 200 dX15_oneTick_197 rfl rfl (fun c197 => ?_) (fun c197 => ?_)
        · have k197 := j_le0_t (a := (s.1 17)) (by omega) c197
          have hL : stars [lst rdve DL, pt m (.inr (13, moF F w bg)), pt (F 1) (.inl (6, 6, .inr (.inr (.inr (.inr (adD DL)))))), X1, X2, X3, X4, X5, X6, X7, X8, X9] h := lst_b (f := rdve) i he hL
          refine e_iinc 218 (v := (nI (i + 1))) (ls' := [some (.ref m), some (.int (nI (i + 1))), none]) dX15_oneTick_215 rfl rfl (nI_add i 1) (by decide) rfl ?_
          refine e_goto 168 dX15_oneTick_218 rfl ?_
          have hL : stars [pt m (.inr (13, moF F w bg)), pt (F 1) (.inl (6, 6, .inr (.inr (.inr (.inr (adD DL)))))), lst rdve DL, X1, X2, X3, X4, X5, X6, X7, X8, X9] h := stars_ixn hL 12 rfl [1, 2, 0, 3, 4, 5, 6, 7, 8, 9, 10, 11] (by decide) rfl
          refine e_wk [some (.ref m), some (.int (nI (i + 1))), none] ⟨rfl, rfl, trivial⟩ ?_
          exact ih (i + 1) DL h (by omega) (by omega) (dv_id hD he (if_neg (show ¬ 0 < s.1 17 by omega))) hl9 hL
        · have k197 := j_le0_f (a := (s.1 17)) (by omega) c197
          refine e_aload_n 201 dX15_oneTick_200 rfl rfl ?_
          refine e_get 204 (v := (.ref (F 1))) dX15_oneTick_201 rfl fl_X15_9_13 (stars_at _ 2 hL rfl) rfl ?_
          refine e_iload_n 205 dX15_oneTick_204 rfl rfl ?_
          refine p_aaldD 206 hL 3 (v := d) (k := i) rfl (adD_at he) dX15_oneTick_205 rfl (by omega) ?_
          obtain ⟨A, hL⟩ := rdv_on hL
          have hL : stars [pt d (.inr (10, rdF A s)), rRn A s, lst rdve (DL.eraseIdx i), pt m (.inr (13, moF F w bg)), pt (F 1) (.inl (6, 6, .inr (.inr (.inr (.inr (adD DL)))))), X1, X2, X3, X4, X5, X6, X7, X8, X9] h := hL
          refine e_dup 207 dX15_oneTick_206 rfl rfl ?_
          refine e_get 210 (v := (.int (nI (s.1 17)))) dX15_oneTick_207 rfl fl_X15_266_10 (stars_at _ 0 hL rfl) rfl ?_
          refine e_iconst 211 (v := (nI 1)) dX15_oneTick_210 rfl (by decide) ?_
          refine e_isub 212 (v := (nI (s.1 17 - 1))) dX15_oneTick_211 rfl (pk_sub (by omega)) ?_
          refine p_put 215 hL 0 (fs' := (rdF A s).set 36 (.int (nI (s.1 17 - 1)))) (L' := [pt d (.inr (10, (rdF A s).set 36 (.int (nI (s.1 17 - 1))))), rRn A s, lst rdve (DL.eraseIdx i), pt m (.inr (13, moF F w bg)), pt (F 1) (.inl (6, 6, .inr (.inr (.inr (.inr (adD DL)))))), X1, X2, X3, X4, X5, X6, X7, X8, X9]) rfl rfl dX15_oneTick_212 rfl fp_X15_266_10 (Or.inl rfl) (Nat.le_of_ble_eq_true rfl) rfl rfl rfl (fun h hL => ?_)
          have hL : stars [rdv d (upN s.1 17 (s.1 17 - 1), s.2), lst rdve (DL.eraseIdx i), pt m (.inr (13, moF F w bg)), pt (F 1) (.inl (6, 6, .inr (.inr (.inr (.inr (adD DL)))))), X1, X2, X3, X4, X5, X6, X7, X8, X9] h := rdv_cn (s := s) (A := A) (fs' := (rdF A s).set 36 (.int (nI (s.1 17 - 1)))) (v := upN s.1 17 (s.1 17 - 1)) (B := dB s) rfl rfl hL
          have hL : stars [lst rdve (DL.set i (d, (upN s.1 17 (s.1 17 - 1), s.2))), pt m (.inr (13, moF F w bg)), pt (F 1) (.inl (6, 6, .inr (.inr (.inr (.inr (adD DL)))))), X1, X2, X3, X4, X5, X6, X7, X8, X9] h := lst_c (f := rdve) (x := (d, (upN s.1 17 (s.1 17 - 1), s.2))) i (by omega) hL
          rw [adD_set he (upN s.1 17 (s.1 17 - 1), s.2)] at hL
          have hL : stars [lst rdve (DL.set i (d, (upN s.1 17 (s.1 17 - 1), s.2))), pt m (.inr (13, moF F w bg)), pt (F 1) (.inl (6, 6, .inr (.inr (.inr (.inr (adD (DL.set i (d, (upN s.1 17 (s.1 17 - 1), s.2))))))))), X1, X2, X3, X4, X5, X6, X7, X8, X9] h := hL
          refine e_iinc 218 (v := (nI (i + 1))) (ls' := [some (.ref m), some (.int (nI (i + 1))), none]) dX15_oneTick_215 rfl rfl (nI_add i 1) (by decide) rfl ?_
          refine e_goto 168 dX15_oneTick_218 rfl ?_
          have hL : stars [pt m (.inr (13, moF F w bg)), pt (F 1) (.inl (6, 6, .inr (.inr (.inr (.inr (adD (DL.set i (d, (upN s.1 17 (s.1 17 - 1), s.2))))))))), lst rdve (DL.set i (d, (upN s.1 17 (s.1 17 - 1), s.2))), X1, X2, X3, X4, X5, X6, X7, X8, X9] h := stars_ixn hL 12 rfl [1, 2, 0, 3, 4, 5, 6, 7, 8, 9, 10, 11] (by decide) rfl
          refine e_wk [some (.ref m), some (.int (nI (i + 1))), none] ⟨rfl, rfl, trivial⟩ ?_
          exact ih (i + 1) (DL.set i (d, (upN s.1 17 (s.1 17 - 1), s.2))) h (by omega) (by omega) (dv_set hD he (if_pos (show 0 < s.1 17 by omega))) (by rw [List.length_set]; exact hl9) hL
