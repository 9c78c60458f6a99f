/-! the reference: silence -/
theorem dv_at {f : Nat → DS → DS} {D : List DS} {DL : List (Nat × DS)} {i d : Nat} {s : DS} (h : DL.map (·.2) = dvX f i D) (he : DL[i]? = some (d, s)) : D[i]? = some s := by
  have h1 : (DL.map (·.2))[i]? = some s := by rw [List.getElem?_map, he]; rfl
  rw [h, dvX_get i i (Nat.le_refl _)] at h1
  exact h1
theorem dvX_app {f : Nat → DS → DS} {D P : List DS} : ∀ i, i ≤ D.length → dvX f i (D ++ P) = dvX f i D ++ P
  | 0, _ => rfl
  | i + 1, h => by
    rw [dvX, dvX_app i (by omega), dvX, List.set_append_left _ _ (by rw [dvX_len]; omega)]
    congr 3
    simp only [List.getD]
    rw [List.getElem?_append_left (by rw [dvX_len]; omega)]
section ER
variable {M : MD} {fr lo mc ms : Nat} {Q : Option Value → eH → Prop} {pc ce sl : Nat} {ls : List (Option Value)} {st : List Value} {h : eH}
theorem p_aaldD (np : Nat) {L : List sA} (hL : stars L h) (i : Nat) {a v k : Nat} {f : Nat → Option Nat} (hi : L[i]? = some (pt a (.inl (6, 6, .inr (.inr (.inr (.inr f))))))) (hv : f k = some v) (hd : decode M.2.1 pc = .ok (.aaload, 1)) (hn : pc + 1 = np) (hk : k < 6) (kk : EE M fr lo mc ms Q np ls (.ref v :: st) h ce sl) : EE M fr lo mc ms Q pc ls (.int (nI k) :: .ref a :: st) h ce sl :=
  e_aald np (v := .ref v) hd hn (stars_at L i hL hi) rfl (Or.inl ⟨_, rfl⟩) (vp_in_nI hk (by decide)) (by rw [nI_clamp (by omega), hv]; rfl) kk
end ER
theorem K_hears {d b : Nat} {s : DS} (hq : s.1 20 < 1000000) : CA mX14_hears [.ref d, .int (nI b)] [rdv d s] (fun x K => x = none ∧ K = [rdv d (heD b s)]) 0 0 0 0 := by
  refine CA.via (ι := Nat → Nat) (L := fun A => [pt d (.inr (10, rdF A s)), iar (A 0) 256 (dL s 6)] ++ [rRa A s]) (fun h hL => rdv_oa hL) (fun A => ?_)
  refine CA.to (CA.frame [rRa A s] (k_X14_hearsD (s := d) (a := A 0) (q := s.1 20) (r := dL s 6) (sp := dB s 1) (ov := dB s 2) (xs := (rdF A s).drop 5) (b := b) hq)) ?_
  rintro r K h ⟨K1, ⟨e1, e2⟩, e3⟩ hK
  subst e2
  subst e3
  exact ⟨_, ⟨e1, rfl⟩, rdv_ca (X := []) (A := A) (r := hrR (dL s 6) b) (q := 0) (B := upB (upB (dB s) 1 (hrS (dL s 6) (s.1 20) (dB s 1))) 2 (hrO (dL s 6) (dB s 2))) rfl hK⟩
theorem upN_same {v : Nat → Nat} {k : Nat} : upN v k (v k) = v := by
  funext i
  unfold upN
  split
  · rename_i e; rw [e]
  · rfl
theorem K_empties {d : Nat} {s : DS} : CA mX14_empties [.ref d] [rdv d s] (fun x K => x = none ∧ K = [rdv d (fgD s)]) 0 0 0 0 := by
  refine CA.via (ι := Nat → Nat) (L := fun A => [pt d (.inr (10, rdF A s)), iar (A 0) 256 (dL s 6)] ++ [rRa A s]) (fun h hL => rdv_oa hL) (fun A => ?_)
  refine CA.to (CA.frame [rRa A s] (k_X14_emptiesD (s := d) (a := A 0) (q := s.1 20) (r := dL s 6) (sp := dB s 1) (ov := dB s 2) (xs := (rdF A s).drop 5))) ?_
  rintro r K h ⟨K1, ⟨e1, e2⟩, e3⟩ hK
  subst e2
  subst e3
  have z := rdv_ca (X := []) (s := s) (A := A) (r := []) (q := s.1 20) (B := upB (upB (dB s) 1 false) 2 false) rfl hK
  rw [upN_same] at z
  exact ⟨_, ⟨e1, rfl⟩, z⟩
abbrev lmL (m : Nat) (F w : Nat → Nat) (bg : Bool) (M : MS) (pd : List Nat) : List sA := [rmo m F (rmM w M.1) bg, iar (F 5) 260 pd, rst (F 6) M.2.2.2.2.1 (M.1 20) (M.2.2.2.2.2 1) (M.2.2.2.2.2 2), rrw (F 12) 16 3 (M.2.1.map rqE), rrw (F 13) 32 5 (M.2.2.1.map rsE)]
set_option maxRecDepth 20000 in
theorem K_looksMaster {m : Nat} {F w B : Nat → Nat} {bg : Bool} {pd : List Nat} {M : MS} (hM : okMS B M) (hB : ∀ k, B k < 2 ^ 30) (hne : M.1 1 = 2 → 0 < M.2.1.length) : CA mX15_looksMaster [.ref m] (lmL m F w bg M pd) (fun x9 K => x9 = none ∧ ∃ p9, K = lmL m F w bg (tfS M) p9) 3 110 0 0 := by
  obtain ⟨v, RQ, RS, SC, er, mb⟩ := M
  have h1 : v 1 ≤ 2 := hM.1.1
  have h3 : v 3 ≤ 9 := hM.1.2.2.1
  by_cases z : v 1 = 2
  · match RQ, hM, hne with
    | [], _, hne => exact absurd (hne z) (Nat.lt_irrefl 0)
    | (q, nu, ad, at9) :: R, hM, _ =>
      obtain ⟨q1, q2, q3, q4, q5⟩ := hM.2.1 _ (List.mem_cons_self ..)
      have b3 := hB 3
      exact k_X15_looksMaster (v := v) (at9 := at9) (ad := ad) hM.2.2.2.2.2.2.1 (by have : at9 ≤ B 3 := q5; omega) (by omega) (by omega) (by have : ad < 248 := q4; omega) q1 q2 hM.2.2.2.2.1
  · refine CA.to (CA.frame [iar (F 5) 260 pd, rst (F 6) er (v 20) (mb 1) (mb 2), rrw (F 12) 16 3 (RQ.map rqE), rrw (F 13) 32 5 (RS.map rsE)] (k_X15_looksMaster0 (m := m) (F := F) (w := w) (bg := bg) (v := v) (RQ := RQ) (RS := RS) (SC := SC) (er := er) (mb := mb) (by omega) z)) ?_
    rintro r K h ⟨K1, ⟨e1, e2⟩, e3⟩ hK
    subst e2
    subst e3
    refine ⟨_, ⟨e1, pd, rfl⟩, ?_⟩
    rw [tf_0 (s := (v, RQ, RS, SC, er, mb)) (Or.inl z)] at hK ⊢
    exact hK
set_option maxRecDepth 20000 in
set_option maxHeartbeats 2000000 in
theorem l_sil {m who : Nat} {F w : Nat → Nat} {bg : Bool} {D9 : List DS} {X1 X2 X3 : sA} (h6 : w 2 ≤ 6) (hok9 : ∀ i s, i < w 2 → D9[i]? = some s → okD s ∧ okE s ∧ s.1 20 < 1000000) (hw : who < 1000) {Q : Option Value → eH → Prop} (kk : ∀ r pd DL h, DL.map (·.2) = dvX (fun i s => if who = 2 + i then s else siD s) (w 2) D9 → DL.length = 6 → stars [ansP m F w bg r, iar (F 5) 260 pd, pt (F 1) (.inl (6, 6, .inr (.inr (.inr (.inr (adD DL)))))), lst rdve DL, X1, X2, X3] h → Q none h) : ∀ (n : Nat) (i : Nat) (DL : List (Nat × DS)) (r pd : List Nat) (h : eH), w 2 - i < n → i ≤ w 2 → DL.map (·.2) = dvX (fun i s => if who = 2 + i then s else siD s) i D9 → DL.length = 6 → stars [ansP m F w bg r, iar (F 5) 260 pd, pt (F 1) (.inl (6, 6, .inr (.inr (.inr (.inr (adD DL)))))), lst rdve DL, X1, X2, X3] h → EE mX15_silence 6 160 0 0 (Q) 53 [some (.ref m), some (.int (nI who)), some (.int (nI i)), none] [] h 0 0 := by
  intro n
  induction n with
  | zero => intro i DL r pd h hlt hle hD hl9 hL; exact absurd hlt (by omega)
  | succ n ih =>
    intro i DL r pd h hlt hle hD hl9 hL
    refine e_iload_n 54 dX15_silence_53 rfl rfl ?_
    refine e_aload_n 55 dX15_silence_54 rfl rfl ?_
    refine e_get 58 (v := (.int (nI (w 2)))) dX15_silence_55 rfl fl_X15_78_13 (ans_V _ 0 hL rfl) rfl ?_
    refine e_icmp_ge 119 61 dX15_silence_58 rfl rfl (fun c58 => ?_) (fun c58 => ?_)
    · have k58 := j_ge_t (a := i) (b := (w 2)) (by omega) (by omega) c58
      exact e_vret dX15_silence_119 rfl (by omega) (by omega) (kk r pd DL h (by rw [hD, show i = w 2 by omega]) hl9 hL)
    · have k58 := j_ge_f (a := i) (b := (w 2)) (by omega) (by omega) c58
      obtain ⟨⟨d, s⟩, he⟩ : ∃ e, DL[i]? = some e := ⟨_, List.getElem?_eq_getElem (show i < DL.length by omega)⟩
      have hsD := dv_at hD he
      obtain ⟨hok, hoe, h20⟩ := hok9 i s (by omega) hsD
      refine e_aload_n 62 dX15_silence_61 rfl rfl ?_
      refine e_get 65 (v := (.ref (F 1))) dX15_silence_62 rfl fl_X15_9_13 (ans_V _ 0 hL rfl) rfl ?_
      refine e_iload_n 66 dX15_silence_65 rfl rfl ?_
      refine p_aaldD 67 hL 2 (v := d) (k := i) rfl (adD_at he) dX15_silence_66 rfl (by omega) ?_
      refine e_astore_n 68 (ls' := [some (.ref m), some (.int (nI who)), some (.int (nI i)), some (.ref d)]) dX15_silence_67 rfl (by decide) rfl ?_
      refine e_iload_n 69 dX15_silence_68 rfl rfl ?_
      refine e_iconst 70 (v := (nI 2)) dX15_silence_69 rfl (by decide) ?_
      refine e_iload_n 71 dX15_silence_70 rfl rfl ?_
      refine e_iadd 72 (v := (nI (2 + i))) dX15_silence_71 rfl (nI_add 2 i) ?_
      refine e_icmp_ne 78 75 dX15_silence_72 rfl rfl (fun c72 => ?_) (fun c72 => ?_)
      · have k72 := j_ne_t (a := who) (b := (2 + i)) (by omega) (by omega) c72
        have hL : stars [lst rdve DL, ansP m F w bg r, iar (F 5) 260 pd, pt (F 1) (.inl (6, 6, .inr (.inr (.inr (.inr (adD DL)))))), X1, X2, X3] h := stars_ixn hL 7 rfl [3, 0, 1, 2, 4, 5, 6] (by decide) rfl
        have hL : stars [rdv d s, lst rdve (DL.eraseIdx i), ansP m F w bg r, iar (F 5) 260 pd, pt (F 1) (.inl (6, 6, .inr (.inr (.inr (.inr (adD DL)))))), X1, X2, X3] h := lst_o i he hL
        obtain ⟨A, hL⟩ := rdv_on hL
        have hL : stars [pt d (.inr (10, rdF A s)), rRn A s, lst rdve (DL.eraseIdx i), ansP m F w bg r, iar (F 5) 260 pd, pt (F 1) (.inl (6, 6, .inr (.inr (.inr (.inr (adD DL)))))), X1, X2, X3] h := hL
        refine e_aload_n 79 dX15_silence_78 rfl rfl ?_
        refine e_dup 80 dX15_silence_79 rfl rfl ?_
        refine e_get 83 dX15_silence_80 rfl fl_X15_427_10 (stars_at _ 0 hL rfl) rfl ?_
        refine e_iconst 84 (v := (nI 1)) dX15_silence_83 rfl (by decide) ?_
        refine e_iadd 85 (v := (nI ((s.1 20) + 1))) dX15_silence_84 rfl (nI_add (s.1 20) 1) ?_
        refine p_put 88 hL 0 (fs' := (rdF A s).set 2 (.int (nI ((s.1 20) + 1)))) (L' := [pt d (.inr (10, (rdF A s).set 2 (.int (nI ((s.1 20) + 1))))), rRn A s, lst rdve (DL.eraseIdx i), ansP m F w bg r, iar (F 5) 260 pd, pt (F 1) (.inl (6, 6, .inr (.inr (.inr (.inr (adD DL)))))), X1, X2, X3]) rfl rfl dX15_silence_85 rfl fp_X15_427_10 (Or.inl rfl) (Nat.le_of_ble_eq_true rfl) rfl rfl rfl (fun h hL => ?_)
        have hL : stars [rdv d (upN s.1 20 (s.1 20 + 1), s.2), lst rdve (DL.eraseIdx i), ansP m F w bg r, iar (F 5) 260 pd, pt (F 1) (.inl (6, 6, .inr (.inr (.inr (.inr (adD DL)))))), X1, X2, X3] h := rdv_cn (s := s) (A := A) (fs' := (rdF A s).set 2 (.int (nI ((s.1 20) + 1)))) (v := upN s.1 20 (s.1 20 + 1)) (B := dB s) rfl rfl hL
        obtain ⟨s1, hs1⟩ : ∃ x : DS, x = (upN s.1 20 (s.1 20 + 1), s.2) := ⟨_, rfl⟩
        rw [← hs1] at hL
        have hL : stars [rdv d s1, lst rdve (DL.eraseIdx i), ansP m F w bg r, iar (F 5) 260 pd, pt (F 1) (.inl (6, 6, .inr (.inr (.inr (.inr (adD DL)))))), X1, X2, X3] h := hL
        have e20 : s1.1 20 = s.1 20 + 1 := by rw [hs1]; rfl
        have e6 : dL s1 6 = dL s 6 := by rw [hs1] <;> rfl
        have ok1 : okD s1 := by rw [hs1]; exact okD_q hok
        have oe1 : okE s1 := by rw [hs1]; exact okE_q hoe
        have l6 := (okE_ln oe1).2.2.1
        refine e_aload_n 89 dX15_silence_88 rfl rfl ?_
        obtain ⟨A89, v89_0, v89_1, v89_2, v89_3, v89_4, v89_5, v89_6, v89_7, v89_8, v89_9, v89_10, v89_11, v89_12, v89_13, v89_14, v89_15, v89_16, v89_17, v89_18, v89_19, v89_20, v89_21⟩ := rdv_V _ 0 hL rfl
        refine e_get 92 (v := (.int (nI (s1.1 20)))) dX15_silence_89 rfl fl_X15_427_10 v89_0 rfl ?_
        refine e_bipush 94 (v := (nI 14)) dX15_silence_92 rfl (by decide) ?_
        refine e_icmp_ne 113 97 dX15_silence_94 rfl rfl (fun c94 => ?_) (fun c94 => ?_)
        · have k94 := j_ne_t (a := (s1.1 20)) (b := 14) (by omega) (by omega) c94
          have hL : stars [lst rdve (DL.set i (d, s1)), ansP m F w bg r, iar (F 5) 260 pd, pt (F 1) (.inl (6, 6, .inr (.inr (.inr (.inr (adD DL)))))), X1, X2, X3] h := lst_c (f := rdve) (x := (d, s1)) i (by omega) hL
          rw [adD_set he s1] at hL
          have hL : stars [lst rdve (DL.set i (d, s1)), ansP m F w bg r, iar (F 5) 260 pd, pt (F 1) (.inl (6, 6, .inr (.inr (.inr (.inr (adD (DL.set i (d, s1)))))))), X1, X2, X3] h := hL
          refine e_iinc 116 (v := (nI (i + 1))) (ls' := [some (.ref m), some (.int (nI who)), some (.int (nI (i + 1))), some (.ref d)]) dX15_silence_113 rfl rfl (nI_add i 1) (by decide) rfl ?_
          refine e_goto 53 dX15_silence_116 rfl ?_
          have hL : stars [ansP m F w bg r, iar (F 5) 260 pd, pt (F 1) (.inl (6, 6, .inr (.inr (.inr (.inr (adD (DL.set i (d, s1)))))))), lst rdve (DL.set i (d, s1)), X1, X2, X3] h := stars_ixn hL 7 rfl [1, 2, 3, 0, 4, 5, 6] (by decide) rfl
          refine e_wk [some (.ref m), some (.int (nI who)), some (.int (nI (i + 1))), none] ⟨rfl, rfl, rfl, trivial⟩ ?_
          exact ih (i + 1) (DL.set i (d, s1)) r pd h (by omega) (by omega) (dv_set hD he ((if_neg (show ¬ who = 2 + i by omega)).trans ((if_neg (show ¬ (s.1 20 + 1 = 14 ∧ 0 < (dL s 6).length) from fun z => by have z2 := z.2; rw [← e6] at z2; omega)).trans hs1.symm))) (by rw [List.length_set]; exact hl9) hL
        · have k94 := j_ne_f (a := (s1.1 20)) (b := 14) (by omega) (by omega) c94
          refine e_aload_n 98 dX15_silence_97 rfl rfl ?_
          refine e_get 101 (v := (.int (nI (dL s1 6).length))) dX15_silence_98 rfl fl_X15_251_10 v89_0 rfl ?_
          refine e_if_le 113 104 dX15_silence_101 rfl rfl (fun c101 => ?_) (fun c101 => ?_)
          · have k101 := j_le0_t (a := (dL s1 6).length) (by omega) c101
            have hL : stars [lst rdve (DL.set i (d, s1)), ansP m F w bg r, iar (F 5) 260 pd, pt (F 1) (.inl (6, 6, .inr (.inr (.inr (.inr (adD DL)))))), X1, X2, X3] h := lst_c (f := rdve) (x := (d, s1)) i (by omega) hL
            rw [adD_set he s1] at hL
            have hL : stars [lst rdve (DL.set i (d, s1)), ansP m F w bg r, iar (F 5) 260 pd, pt (F 1) (.inl (6, 6, .inr (.inr (.inr (.inr (adD (DL.set i (d, s1)))))))), X1, X2, X3] h := hL
            refine e_iinc 116 (v := (nI (i + 1))) (ls' := [some (.ref m), some (.int (nI who)), some (.int (nI (i + 1))), some (.ref d)]) dX15_silence_113 rfl rfl (nI_add i 1) (by decide) rfl ?_
            refine e_goto 53 dX15_silence_116 rfl ?_
            have hL : stars [ansP m F w bg r, iar (F 5) 260 pd, pt (F 1) (.inl (6, 6, .inr (.inr (.inr (.inr (adD (DL.set i (d, s1)))))))), lst rdve (DL.set i (d, s1)), X1, X2, X3] h := stars_ixn hL 7 rfl [1, 2, 3, 0, 4, 5, 6] (by decide) rfl
            refine e_wk [some (.ref m), some (.int (nI who)), some (.int (nI (i + 1))), none] ⟨rfl, rfl, rfl, trivial⟩ ?_
            exact ih (i + 1) (DL.set i (d, s1)) r pd h (by omega) (by omega) (dv_set hD he ((if_neg (show ¬ who = 2 + i by omega)).trans ((if_neg (show ¬ (s.1 20 + 1 = 14 ∧ 0 < (dL s 6).length) from fun z => by have z2 := z.2; rw [← e6] at z2; omega)).trans hs1.symm))) (by rw [List.length_set]; exact hl9) hL
          · have k101 := j_le0_f (a := (dL s1 6).length) (by omega) c101
            refine e_aload_n 105 dX15_silence_104 rfl rfl ?_
            refine e_aload_n 106 dX15_silence_105 rfl rfl ?_
            refine p_callV 109 hL [2, 0, 3, 1, 4, 5, 6, 7] 8 rfl (by decide) (L1 := [ansP m F w bg r, rdv d s1, iar (F 5) 260 pd]) (L2 := [lst rdve (DL.eraseIdx i), pt (F 1) (.inl (6, 6, .inr (.inr (.inr (.inr (adD DL)))))), X1, X2, X3]) rfl ans_O 2 rfl dX15_silence_106 rfl cv_X15_428 (k_X15_looks oe1 ok1) rfl rfl (Nat.le_of_ble_eq_true rfl) ⟨by decide, by omega, by omega⟩ (fun r1 L1 h q hL => ?_)
            obtain ⟨rfl, r9, p9, rfl⟩ := q
            have hL : stars [ansP m F w bg r9, rdv d (lkD s1), iar (F 5) 260 p9, lst rdve (DL.eraseIdx i), pt (F 1) (.inl (6, 6, .inr (.inr (.inr (.inr (adD DL)))))), X1, X2, X3] h := hL
            have hL : stars [rdv d (lkD s1), lst rdve (DL.eraseIdx i), ansP m F w bg r9, iar (F 5) 260 p9, pt (F 1) (.inl (6, 6, .inr (.inr (.inr (.inr (adD DL)))))), X1, X2, X3] h := stars_ixn hL 8 rfl [1, 3, 0, 2, 4, 5, 6, 7] (by decide) rfl
            refine e_aload_n 110 dX15_silence_109 rfl rfl ?_
            refine p_callU 113 hL [0, 1, 2, 3, 4, 5, 6, 7] 8 rfl (by decide) (L1 := [rdv d (lkD s1)]) (L2 := [lst rdve (DL.eraseIdx i), ansP m F w bg r9, iar (F 5) 260 p9, pt (F 1) (.inl (6, 6, .inr (.inr (.inr (.inr (adD DL)))))), X1, X2, X3]) rfl rdv_O 0 rfl dX15_silence_110 rfl cu_X15_431 K_empties rfl rfl (Nat.le_of_ble_eq_true rfl) ⟨by decide, by omega, by omega⟩ (fun r1 L1 h q hL => ?_)
            obtain ⟨rfl, rfl⟩ := q
            have hL : stars [rdv d (fgD (lkD s1)), lst rdve (DL.eraseIdx i), ansP m F w bg r9, iar (F 5) 260 p9, pt (F 1) (.inl (6, 6, .inr (.inr (.inr (.inr (adD DL)))))), X1, X2, X3] h := hL
            have hL : stars [lst rdve (DL.set i (d, (fgD (lkD s1)))), ansP m F w bg r9, iar (F 5) 260 p9, pt (F 1) (.inl (6, 6, .inr (.inr (.inr (.inr (adD DL)))))), X1, X2, X3] h := lst_c (f := rdve) (x := (d, (fgD (lkD s1)))) i (by omega) hL
            rw [adD_set he (fgD (lkD s1))] at hL
            have hL : stars [lst rdve (DL.set i (d, (fgD (lkD s1)))), ansP m F w bg r9, iar (F 5) 260 p9, pt (F 1) (.inl (6, 6, .inr (.inr (.inr (.inr (adD (DL.set i (d, (fgD (lkD s1)))))))))), X1, X2, X3] h := hL
            refine e_iinc 116 (v := (nI (i + 1))) (ls' := [some (.ref m), some (.int (nI who)), some (.int (nI (i + 1))), some (.ref d)]) dX15_silence_113 rfl rfl (nI_add i 1) (by decide) rfl ?_
            refine e_goto 53 dX15_silence_116 rfl ?_
            have hL : stars [ansP m F w bg r9, iar (F 5) 260 p9, pt (F 1) (.inl (6, 6, .inr (.inr (.inr (.inr (adD (DL.set i (d, (fgD (lkD s1)))))))))), lst rdve (DL.set i (d, (fgD (lkD s1)))), X1, X2, X3] h := stars_ixn hL 7 rfl [1, 2, 3, 0, 4, 5, 6] (by decide) rfl
            refine e_wk [some (.ref m), some (.int (nI who)), some (.int (nI (i + 1))), none] ⟨rfl, rfl, rfl, trivial⟩ ?_
            exact ih (i + 1) (DL.set i (d, (fgD (lkD s1)))) r9 p9 h (by omega) (by omega) (dv_set hD he ((if_neg (show ¬ who = 2 + i by omega)).trans ((if_pos (show s.1 20 + 1 = 14 ∧ 0 < (dL s 6).length from ⟨by omega, by rw [← e6]; omega⟩)).trans (by rw [hs1]; rfl)))) (by rw [List.length_set]; exact hl9) hL
      · have k72 := j_ne_f (a := who) (b := (2 + i)) (by omega) (by omega) c72
        refine e_goto 113 dX15_silence_75 rfl ?_
        refine e_iinc 116 (v := (nI (i + 1))) (ls' := [some (.ref m), some (.int (nI who)), some (.int (nI (i + 1))), some (.ref d)]) dX15_silence_113 rfl rfl (nI_add i 1) (by decide) rfl ?_
        refine e_goto 53 dX15_silence_116 rfl ?_
        refine e_wk [some (.ref m), some (.int (nI who)), some (.int (nI (i + 1))), none] ⟨rfl, rfl, rfl, trivial⟩ ?_
        exact ih (i + 1) DL r pd h (by omega) (by omega) (dv_id hD he (if_pos (show who = 2 + i by omega))) hl9 hL
