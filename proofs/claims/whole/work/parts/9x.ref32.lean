/-! the reference: a tick of sending -/
set_option maxRecDepth 20000 in
set_option maxHeartbeats 2000000 in
theorem k_X15_endsSending {m dg wt id9 who : Nat} {F w : Nat → Nat} {bg : Bool} (hw : who < 1000) : CA mX15_endsSending [.ref m] [pt m (.inr (13, moF F (upN (upN (upN (upN w 7 dg) 8 wt) 19 id9) 20 who) bg))] (fun x9 K => x9 = none ∧ K = [rmo m F (upN (upN (upN (upN w 7 (if who = 1 then 2 else dg)) 8 (if who = 1 then 0 else wt)) 19 0) 20 0) bg]) 0 0 0 0 := by
  refine CA.mk 0 (ls := [some (.ref m)]) rfl rfl (Nat.le_of_ble_eq_true rfl) rfl (fun h hL => ?_)
  refine e_aload_n 1 dX15_endsSending_0 rfl rfl ?_
  refine e_get 4 (v := (.int (nI who))) dX15_endsSending_1 rfl fl_X15_340_13 (stars_at _ 0 hL rfl) rfl ?_
  refine e_iconst 5 (v := (nI 1)) dX15_endsSending_4 rfl (by decide) ?_
  refine e_icmp_ne 18 8 dX15_endsSending_5 rfl rfl (fun c5 => ?_) (fun c5 => ?_)
  · have k5 := j_ne_t (a := who) (b := 1) (by omega) (by omega) c5
    refine e_aload_n 19 dX15_endsSending_18 rfl rfl ?_
    refine e_iconst 20 (v := (nI 0)) dX15_endsSending_19 rfl (by decide) ?_
    refine p_put 23 hL 0 (fs' := moF F (upN (upN (upN (upN (upN w 7 dg) 8 wt) 19 id9) 20 who) 20 0) bg) (L' := [pt m (.inr (13, moF F (upN (upN (upN (upN (upN w 7 dg) 8 wt) 19 id9) 20 who) 20 0) bg))]) rfl rfl dX15_endsSending_20 rfl fp_X15_340_13 (Or.inl rfl) (Nat.le_of_ble_eq_true rfl) rfl rfl rfl (fun h hL => ?_)
    refine e_aload_n 24 dX15_endsSending_23 rfl rfl ?_
    refine e_iconst 25 (v := (nI 0)) dX15_endsSending_24 rfl (by decide) ?_
    refine p_put 28 hL 0 (fs' := moF F (upN (upN (upN (upN (upN (upN w 7 dg) 8 wt) 19 id9) 20 who) 20 0) 19 0) bg) (L' := [pt m (.inr (13, moF F (upN (upN (upN (upN (upN (upN w 7 dg) 8 wt) 19 id9) 20 who) 20 0) 19 0) bg))]) rfl rfl dX15_endsSending_25 rfl fp_X15_54_13 (Or.inl rfl) (Nat.le_of_ble_eq_true rfl) rfl rfl rfl (fun h hL => ?_)
    exact e_vret dX15_endsSending_28 rfl (by omega) (by omega) (⟨_, ⟨rfl, rfl⟩, by rw [if_neg k5, if_neg k5]; exact hL⟩)
  · have k5 := j_ne_f (a := who) (b := 1) (by omega) (by omega) c5
    refine e_aload_n 9 dX15_endsSending_8 rfl rfl ?_
    refine e_iconst 10 (v := (nI 2)) dX15_endsSending_9 rfl (by decide) ?_
    refine p_put 13 hL 0 (fs' := moF F (upN (upN (upN (upN (upN w 7 dg) 8 wt) 19 id9) 20 who) 7 2) bg) (L' := [pt m (.inr (13, moF F (upN (upN (upN (upN (upN w 7 dg) 8 wt) 19 id9) 20 who) 7 2) bg))]) rfl rfl dX15_endsSending_10 rfl fp_X15_306_13 (Or.inl rfl) (Nat.le_of_ble_eq_true rfl) rfl rfl rfl (fun h hL => ?_)
    refine e_aload_n 14 dX15_endsSending_13 rfl rfl ?_
    refine e_iconst 15 (v := (nI 0)) dX15_endsSending_14 rfl (by decide) ?_
    refine p_put 18 hL 0 (fs' := moF F (upN (upN (upN (upN (upN (upN w 7 dg) 8 wt) 19 id9) 20 who) 7 2) 8 0) bg) (L' := [pt m (.inr (13, moF F (upN (upN (upN (upN (upN (upN w 7 dg) 8 wt) 19 id9) 20 who) 7 2) 8 0) bg))]) rfl rfl dX15_endsSending_15 rfl fp_X15_400_13 (Or.inl rfl) (Nat.le_of_ble_eq_true rfl) rfl rfl rfl (fun h hL => ?_)
    refine e_aload_n 19 dX15_endsSending_18 rfl rfl ?_
    refine e_iconst 20 (v := (nI 0)) dX15_endsSending_19 rfl (by decide) ?_
    refine p_put 23 hL 0 (fs' := moF F (upN (upN (upN (upN (upN (upN (upN w 7 dg) 8 wt) 19 id9) 20 who) 7 2) 8 0) 20 0) bg) (L' := [pt m (.inr (13, moF F (upN (upN (upN (upN (upN (upN (upN w 7 dg) 8 wt) 19 id9) 20 who) 7 2) 8 0) 20 0) bg))]) rfl rfl dX15_endsSending_20 rfl fp_X15_340_13 (Or.inl rfl) (Nat.le_of_ble_eq_true rfl) rfl rfl rfl (fun h hL => ?_)
    refine e_aload_n 24 dX15_endsSending_23 rfl rfl ?_
    refine e_iconst 25 (v := (nI 0)) dX15_endsSending_24 rfl (by decide) ?_
    refine p_put 28 hL 0 (fs' := moF F (upN (upN (upN (upN (upN (upN (upN (upN w 7 dg) 8 wt) 19 id9) 20 who) 7 2) 8 0) 20 0) 19 0) bg) (L' := [pt m (.inr (13, moF F (upN (upN (upN (upN (upN (upN (upN (upN w 7 dg) 8 wt) 19 id9) 20 who) 7 2) 8 0) 20 0) 19 0) bg))]) rfl rfl dX15_endsSending_25 rfl fp_X15_54_13 (Or.inl rfl) (Nat.le_of_ble_eq_true rfl) rfl rfl rfl (fun h hL => ?_)
    exact e_vret dX15_endsSending_28 rfl (by omega) (by omega) (⟨_, ⟨rfl, rfl⟩, by rw [if_pos k5, if_pos k5]; exact hL⟩)
set_option maxRecDepth 20000 in
set_option maxHeartbeats 2000000 in
theorem l_hear {m who b : Nat} {F w : Nat → Nat} {bg : Bool} {D9 : List DS} {X1 X2 X3 X4 : sA} (h6 : w 2 ≤ 6) (hok9 : ∀ i s, i < w 2 → D9[i]? = some s → okD s ∧ okE s ∧ s.1 20 < 1000000) (hw : who < 1000) (hwho : w 20 = who) {Q : Option Value → eH → Prop} (kk : ∀ DL h, DL.map (·.2) = dvX (fun i s => if who = 2 + i then s else heD b s) (w 2) D9 → DL.length = 6 → stars [pt m (.inr (13, moF F w bg)), pt (F 1) (.inl (6, 6, .inr (.inr (.inr (.inr (adD DL)))))), lst rdve DL, X1, X2, X3, X4] h → EE mX15_sendsOn 2 60 0 0 Q 200 [some (.ref m), some (.int (nI b)), none] [] h 0 0) : ∀ (n : Nat) (i : Nat) (DL : List (Nat × DS)) (h : eH), w 2 - i < n → i ≤ w 2 → DL.map (·.2) = dvX (fun i s => if who = 2 + i then s else heD b s) i D9 → DL.length = 6 → stars [pt m (.inr (13, moF F w bg)), pt (F 1) (.inl (6, 6, .inr (.inr (.inr (.inr (adD DL)))))), lst rdve DL, X1, X2, X3, X4] h → EE mX15_sendsOn 2 60 0 0 (Q) 166 [some (.ref m), some (.int (nI b)), some (.int (nI i))] [] h 0 0 := by
  intro n
  induction n with
  | zero => intro i DL h hlt hle hD hl9 hL; exact absurd hlt (by omega)
  | succ n ih =>
    intro i DL h hlt hle hD hl9 hL
    refine e_iload_n 167 dX15_sendsOn_166 rfl rfl ?_
    refine e_aload_n 168 dX15_sendsOn_167 rfl rfl ?_
    refine e_get 171 (v := (.int (nI (w 2)))) dX15_sendsOn_168 rfl fl_X15_78_13 (stars_at _ 0 hL rfl) rfl ?_
    refine e_icmp_ge 200 174 dX15_sendsOn_171 rfl rfl (fun c171 => ?_) (fun c171 => ?_)
    · have k171 := j_ge_t (a := i) (b := (w 2)) (by omega) (by omega) c171
      refine e_wk [some (.ref m), some (.int (nI b)), none] ⟨rfl, rfl, trivial⟩ ?_
      exact kk DL h (by rw [hD, show i = w 2 by omega]) hl9 hL
    · have k171 := j_ge_f (a := i) (b := (w 2)) (by omega) (by omega) c171
      obtain ⟨⟨d, s⟩, he⟩ : ∃ e, DL[i]? = some e := ⟨_, List.getElem?_eq_getElem (show i < DL.length by omega)⟩
      have hsD := dv_at hD he
      obtain ⟨hok, hoe, h20⟩ := hok9 i s (by omega) hsD
      refine e_aload_n 175 dX15_sendsOn_174 rfl rfl ?_
      refine e_get 178 (v := (.int (nI (w 20)))) dX15_sendsOn_175 rfl fl_X15_340_13 (stars_at _ 0 hL rfl) rfl ?_
      refine e_iconst 179 (v := (nI 2)) dX15_sendsOn_178 rfl (by decide) ?_
      refine e_iload_n 180 dX15_sendsOn_179 rfl rfl ?_
      refine e_iadd 181 (v := (nI (2 + i))) dX15_sendsOn_180 rfl (nI_add 2 i) ?_
      refine e_icmp_eq 194 184 dX15_sendsOn_181 rfl rfl (fun c181 => ?_) (fun c181 => ?_)
      · have k181 := j_eq_t (a := (w 20)) (b := (2 + i)) (by omega) (by omega) c181
        refine e_iinc 197 (v := (nI (i + 1))) (ls' := [some (.ref m), some (.int (nI b)), some (.int (nI (i + 1)))]) dX15_sendsOn_194 rfl rfl (nI_add i 1) (by decide) rfl ?_
        refine e_goto 166 dX15_sendsOn_197 rfl ?_
        refine e_wk [some (.ref m), some (.int (nI b)), some (.int (nI (i + 1)))] ⟨rfl, rfl, rfl, trivial⟩ ?_
        exact ih (i + 1) DL h (by omega) (by omega) (dv_id hD he (if_pos (show who = 2 + i by omega))) hl9 hL
      · have k181 := j_eq_f (a := (w 20)) (b := (2 + i)) (by omega) (by omega) c181
        refine e_aload_n 185 dX15_sendsOn_184 rfl rfl ?_
        refine e_get 188 (v := (.ref (F 1))) dX15_sendsOn_185 rfl fl_X15_9_13 (stars_at _ 0 hL rfl) rfl ?_
        refine e_iload_n 189 dX15_sendsOn_188 rfl rfl ?_
        refine p_aaldD 190 hL 1 (v := d) (k := i) rfl (adD_at he) dX15_sendsOn_189 rfl (by omega) ?_
        refine e_iload_n 191 dX15_sendsOn_190 rfl rfl ?_
        have hL : stars [lst rdve DL, pt m (.inr (13, moF F w bg)), pt (F 1) (.inl (6, 6, .inr (.inr (.inr (.inr (adD DL)))))), X1, X2, X3, X4] h := stars_ixn hL 7 rfl [2, 0, 1, 3, 4, 5, 6] (by decide) rfl
        have hL : stars [rdv d s, lst rdve (DL.eraseIdx i), pt m (.inr (13, moF F w bg)), pt (F 1) (.inl (6, 6, .inr (.inr (.inr (.inr (adD DL)))))), X1, X2, X3, X4] h := lst_o i he hL
        refine p_callU 194 hL [0, 1, 2, 3, 4, 5, 6, 7] 8 rfl (by decide) (L1 := [rdv d s]) (L2 := [lst rdve (DL.eraseIdx i), pt m (.inr (13, moF F w bg)), pt (F 1) (.inl (6, 6, .inr (.inr (.inr (.inr (adD DL)))))), X1, X2, X3, X4]) rfl rdv_O 0 rfl dX15_sendsOn_191 rfl cu_X15_393 (K_hears h20) rfl rfl (Nat.le_of_ble_eq_true rfl) ⟨by decide, by omega, by omega⟩ (fun r1 L1 h q hL => ?_)
        obtain ⟨rfl, rfl⟩ := q
        have hL : stars [rdv d (heD b s), lst rdve (DL.eraseIdx i), pt m (.inr (13, moF F w bg)), pt (F 1) (.inl (6, 6, .inr (.inr (.inr (.inr (adD DL)))))), X1, X2, X3, X4] h := hL
        have hL : stars [lst rdve (DL.set i (d, (heD b s))), pt m (.inr (13, moF F w bg)), pt (F 1) (.inl (6, 6, .inr (.inr (.inr (.inr (adD DL)))))), X1, X2, X3, X4] h := lst_c (f := rdve) (x := (d, (heD b s))) i (by omega) hL
        rw [adD_set he (heD b s)] at hL
        have hL : stars [lst rdve (DL.set i (d, (heD b s))), pt m (.inr (13, moF F w bg)), pt (F 1) (.inl (6, 6, .inr (.inr (.inr (.inr (adD (DL.set i (d, (heD b s))))))))), X1, X2, X3, X4] h := hL
        refine e_iinc 197 (v := (nI (i + 1))) (ls' := [some (.ref m), some (.int (nI b)), some (.int (nI (i + 1)))]) dX15_sendsOn_194 rfl rfl (nI_add i 1) (by decide) rfl ?_
        refine e_goto 166 dX15_sendsOn_197 rfl ?_
        have hL : stars [pt m (.inr (13, moF F w bg)), pt (F 1) (.inl (6, 6, .inr (.inr (.inr (.inr (adD (DL.set i (d, (heD b s))))))))), lst rdve (DL.set i (d, (heD b s))), X1, X2, X3, X4] h := stars_ixn hL 7 rfl [1, 2, 0, 3, 4, 5, 6] (by decide) rfl
        refine e_wk [some (.ref m), some (.int (nI b)), some (.int (nI (i + 1)))] ⟨rfl, rfl, rfl, trivial⟩ ?_
        exact ih (i + 1) (DL.set i (d, (heD b s))) h (by omega) (by omega) (dv_set hD he (if_neg (show ¬ who = 2 + i by omega))) (by rw [List.length_set]; exact hl9) hL
set_option maxRecDepth 20000 in
set_option maxHeartbeats 2000000 in
theorem g_so200 {m at9 lt lf hm bb db hn dg wt id9 who : Nat} {F w : Nat → Nat} {fr : List Nat} {bg : Bool} {X0 X1 X2 X3 X4 X5 : sA} (hfr : fr.length ≤ 260) (hat : at9 < fr.length) (hm9 : hm ≤ 340) (hw : who < 1000) {Q : Option Value → eH → Prop} (kk : ∀ h, stars [pt m (.inr (13, moF F (upN (upN (upN (upN (upN (upN (upN (upN (upN (upN (upN (upN w 22 fr.length) 24 (at9 + 1)) 26 lt) 27 lf) 28 hm) 29 bb) 30 (db + 1)) 33 hn) 7 (if at9 + 1 = fr.length ∧ who = 1 then 2 else dg)) 8 (if at9 + 1 = fr.length ∧ who = 1 then 0 else wt)) 19 (if at9 + 1 = fr.length then 0 else id9)) 20 (if at9 + 1 = fr.length then 0 else who)) false)), X0, X1, X2, X3, X4, X5] h → Q (some (.int (bI (decide (¬ hm = 256))))) h) {h : eH} (hL : stars [pt m (.inr (13, moF F (upN (upN (upN (upN (upN (upN (upN (upN (upN (upN (upN (upN w 22 fr.length) 24 at9) 26 lt) 27 lf) 28 hm) 29 bb) 30 db) 33 hn) 7 dg) 8 wt) 19 id9) 20 who) bg)), X0, X1, X2, X3, X4, X5] h) : EE mX15_sendsOn 2 60 0 0 (Q) 200 [some (.ref m), none, none] [] h 0 0 := by
  refine e_aload_n 201 dX15_sendsOn_200 rfl rfl ?_
  refine e_dup 202 dX15_sendsOn_201 rfl rfl ?_
  refine e_get 205 (v := (.int (nI db))) dX15_sendsOn_202 rfl fl_X15_394_13 (stars_at _ 0 hL rfl) rfl ?_
  refine e_iconst 206 (v := (nI 1)) dX15_sendsOn_205 rfl (by decide) ?_
  refine e_iadd 207 (v := (nI (db + 1))) dX15_sendsOn_206 rfl (nI_add db 1) ?_
  refine p_put 210 hL 0 (fs' := moF F (upN (upN (upN (upN (upN (upN (upN (upN (upN (upN (upN (upN (upN w 22 fr.length) 24 at9) 26 lt) 27 lf) 28 hm) 29 bb) 30 db) 33 hn) 7 dg) 8 wt) 19 id9) 20 who) 30 (db + 1)) bg) (L' := [pt m (.inr (13, moF F (upN (upN (upN (upN (upN (upN (upN (upN (upN (upN (upN (upN (upN w 22 fr.length) 24 at9) 26 lt) 27 lf) 28 hm) 29 bb) 30 db) 33 hn) 7 dg) 8 wt) 19 id9) 20 who) 30 (db + 1)) bg)), X0, X1, X2, X3, X4, X5]) rfl rfl dX15_sendsOn_207 rfl fp_X15_394_13 (Or.inl rfl) (Nat.le_of_ble_eq_true rfl) rfl rfl rfl (fun h hL => ?_)
  refine e_aload_n 211 dX15_sendsOn_210 rfl rfl ?_
  refine e_iconst 212 (v := (nI 0)) dX15_sendsOn_211 rfl (by decide) ?_
  refine p_put 215 hL 0 (fs' := moF F (upN (upN (upN (upN (upN (upN (upN (upN (upN (upN (upN (upN (upN w 22 fr.length) 24 at9) 26 lt) 27 lf) 28 hm) 29 bb) 30 db) 33 hn) 7 dg) 8 wt) 19 id9) 20 who) 30 (db + 1)) false) (L' := [pt m (.inr (13, moF F (upN (upN (upN (upN (upN (upN (upN (upN (upN (upN (upN (upN (upN w 22 fr.length) 24 at9) 26 lt) 27 lf) 28 hm) 29 bb) 30 db) 33 hn) 7 dg) 8 wt) 19 id9) 20 who) 30 (db + 1)) false)), X0, X1, X2, X3, X4, X5]) rfl rfl dX15_sendsOn_212 rfl fp_X15_352_13 (Or.inl rfl) (Nat.le_of_ble_eq_true rfl) (by decide) rfl rfl (fun h hL => ?_)
  refine e_aload_n 216 dX15_sendsOn_215 rfl rfl ?_
  refine e_dup 217 dX15_sendsOn_216 rfl rfl ?_
  refine e_get 220 (v := (.int (nI at9))) dX15_sendsOn_217 rfl fl_X15_349_13 (stars_at _ 0 hL rfl) rfl ?_
  refine e_iconst 221 (v := (nI 1)) dX15_sendsOn_220 rfl (by decide) ?_
  refine e_iadd 222 (v := (nI (at9 + 1))) dX15_sendsOn_221 rfl (nI_add at9 1) ?_
  refine p_put 225 hL 0 (fs' := moF F (upN (upN (upN (upN (upN (upN (upN (upN (upN (upN (upN (upN (upN (upN w 22 fr.length) 24 at9) 26 lt) 27 lf) 28 hm) 29 bb) 30 db) 33 hn) 7 dg) 8 wt) 19 id9) 20 who) 30 (db + 1)) 24 (at9 + 1)) false) (L' := [pt m (.inr (13, moF F (upN (upN (upN (upN (upN (upN (upN (upN (upN (upN (upN (upN (upN (upN w 22 fr.length) 24 at9) 26 lt) 27 lf) 28 hm) 29 bb) 30 db) 33 hn) 7 dg) 8 wt) 19 id9) 20 who) 30 (db + 1)) 24 (at9 + 1)) false)), X0, X1, X2, X3, X4, X5]) rfl rfl dX15_sendsOn_222 rfl fp_X15_349_13 (Or.inl rfl) (Nat.le_of_ble_eq_true rfl) rfl rfl rfl (fun h hL => ?_)
  refine e_aload_n 226 dX15_sendsOn_225 rfl rfl ?_
  refine e_get 229 (v := (.int (nI (at9 + 1)))) dX15_sendsOn_226 rfl fl_X15_349_13 (stars_at _ 0 hL rfl) rfl ?_
  refine e_aload_n 230 dX15_sendsOn_229 rfl rfl ?_
  refine e_get 233 (v := (.int (nI fr.length))) dX15_sendsOn_230 rfl fl_X15_346_13 (stars_at _ 0 hL rfl) rfl ?_
  refine e_icmp_ne 240 236 dX15_sendsOn_233 rfl rfl (fun c233 => ?_) (fun c233 => ?_)
  · have k233 := j_ne_t (a := (at9 + 1)) (b := fr.length) (by omega) (by omega) c233
    have hL : stars [pt m (.inr (13, moF F (upN (upN (upN (upN (upN (upN (upN (upN (upN (upN (upN (upN w 22 fr.length) 24 (at9 + 1)) 26 lt) 27 lf) 28 hm) 29 bb) 30 (db + 1)) 33 hn) 7 (if at9 + 1 = fr.length ∧ who = 1 then 2 else dg)) 8 (if at9 + 1 = fr.length ∧ who = 1 then 0 else wt)) 19 (if at9 + 1 = fr.length then 0 else id9)) 20 (if at9 + 1 = fr.length then 0 else who)) false)), X0, X1, X2, X3, X4, X5] h := by rw [if_neg (show ¬ (at9 + 1 = fr.length ∧ who = 1) from fun z => k233 z.1), if_neg (show ¬ (at9 + 1 = fr.length ∧ who = 1) from fun z => k233 z.1), if_neg k233, if_neg k233]; exact hL
    refine e_aload_n 241 dX15_sendsOn_240 rfl rfl ?_
    refine e_get 244 (v := (.int (nI hm))) dX15_sendsOn_241 rfl fl_X15_381_13 (stars_at _ 0 hL rfl) rfl ?_
    refine e_sipush 247 (v := (nI 256)) dX15_sendsOn_244 rfl (by decide) ?_
    refine e_icmp_eq 254 250 dX15_sendsOn_247 rfl rfl (fun c247 => ?_) (fun c247 => ?_)
    · have k247 := j_eq_t (a := hm) (b := 256) (by omega) (by omega) c247
      refine e_iconst 255 (v := (nI 0)) dX15_sendsOn_254 rfl (by decide) ?_
      exact e_zret dX15_sendsOn_255 rfl (Or.inl (by decide)) (by omega) (by omega) ((by have z := kk h hL; rw [decide_eq_false (show ¬ ¬ hm = 256 from fun z => z k247)] at z; exact z))
    · have k247 := j_eq_f (a := hm) (b := 256) (by omega) (by omega) c247
      refine e_iconst 251 (v := (nI 1)) dX15_sendsOn_250 rfl (by decide) ?_
      refine e_goto 255 dX15_sendsOn_251 rfl ?_
      exact e_zret dX15_sendsOn_255 rfl (Or.inr (by decide)) (by omega) (by omega) ((by have z := kk h hL; rw [decide_eq_true (show ¬ hm = 256 from k247)] at z; exact z))
  · have k233 := j_ne_f (a := (at9 + 1)) (b := fr.length) (by omega) (by omega) c233
    refine e_aload_n 237 dX15_sendsOn_236 rfl rfl ?_
    have hL : stars [pt m (.inr (13, moF F (upN (upN (upN (upN (upN (upN (upN (upN (upN (upN (upN (upN w 22 fr.length) 24 (at9 + 1)) 26 lt) 27 lf) 28 hm) 29 bb) 30 (db + 1)) 33 hn) 7 dg) 8 wt) 19 id9) 20 who) false)), X0, X1, X2, X3, X4, X5] h := hL
    refine p_callV 240 hL [0, 1, 2, 3, 4, 5, 6] 7 rfl (by decide) (L1 := [pt m (.inr (13, moF F (upN (upN (upN (upN (upN (upN (upN (upN (upN (upN (upN (upN w 22 fr.length) 24 (at9 + 1)) 26 lt) 27 lf) 28 hm) 29 bb) 30 (db + 1)) 33 hn) 7 dg) 8 wt) 19 id9) 20 who) false))]) (L2 := [X0, X1, X2, X3, X4, X5]) rfl isO_pt 0 rfl dX15_sendsOn_237 rfl cv_X15_397 (k_X15_endsSending hw) rfl rfl (Nat.le_of_ble_eq_true rfl) ⟨by decide, by omega, by omega⟩ (fun r1 L1 h q hL => ?_)
    obtain ⟨rfl, rfl⟩ := q
    have hL : stars [pt m (.inr (13, moF F (upN (upN (upN (upN (upN (upN (upN (upN (upN (upN (upN (upN w 22 fr.length) 24 (at9 + 1)) 26 lt) 27 lf) 28 hm) 29 bb) 30 (db + 1)) 33 hn) 7 (if who = 1 then 2 else dg)) 8 (if who = 1 then 0 else wt)) 19 0) 20 0) false)), X0, X1, X2, X3, X4, X5] h := hL
    have hL : stars [pt m (.inr (13, moF F (upN (upN (upN (upN (upN (upN (upN (upN (upN (upN (upN (upN w 22 fr.length) 24 (at9 + 1)) 26 lt) 27 lf) 28 hm) 29 bb) 30 (db + 1)) 33 hn) 7 (if at9 + 1 = fr.length ∧ who = 1 then 2 else dg)) 8 (if at9 + 1 = fr.length ∧ who = 1 then 0 else wt)) 19 (if at9 + 1 = fr.length then 0 else id9)) 20 (if at9 + 1 = fr.length then 0 else who)) false)), X0, X1, X2, X3, X4, X5] h := by rw [show (if at9 + 1 = fr.length ∧ who = 1 then 2 else dg) = (if who = 1 then 2 else dg) by simp [k233], show (if at9 + 1 = fr.length ∧ who = 1 then 0 else wt) = (if who = 1 then 0 else wt) by simp [k233], if_pos k233, if_pos k233]; exact hL
    refine e_aload_n 241 dX15_sendsOn_240 rfl rfl ?_
    refine e_get 244 (v := (.int (nI hm))) dX15_sendsOn_241 rfl fl_X15_381_13 (stars_at _ 0 hL rfl) rfl ?_
    refine e_sipush 247 (v := (nI 256)) dX15_sendsOn_244 rfl (by decide) ?_
    refine e_icmp_eq 254 250 dX15_sendsOn_247 rfl rfl (fun c247 => ?_) (fun c247 => ?_)
    · have k247 := j_eq_t (a := hm) (b := 256) (by omega) (by omega) c247
      refine e_iconst 255 (v := (nI 0)) dX15_sendsOn_254 rfl (by decide) ?_
      exact e_zret dX15_sendsOn_255 rfl (Or.inl (by decide)) (by omega) (by omega) ((by have z := kk h hL; rw [decide_eq_false (show ¬ ¬ hm = 256 from fun z => z k247)] at z; exact z))
    · have k247 := j_eq_f (a := hm) (b := 256) (by omega) (by omega) c247
      refine e_iconst 251 (v := (nI 1)) dX15_sendsOn_250 rfl (by decide) ?_
      refine e_goto 255 dX15_sendsOn_251 rfl ?_
      exact e_zret dX15_sendsOn_255 rfl (Or.inr (by decide)) (by omega) (by omega) ((by have z := kk h hL; rw [decide_eq_true (show ¬ hm = 256 from k247)] at z; exact z))
