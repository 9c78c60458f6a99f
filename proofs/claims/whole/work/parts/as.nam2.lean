/-! the reference: name -/
theorem iw_cp {q r : List Nat} {t N : Nat} (ht : t < q.length) (hq : q.length ≤ r.length) (hr : r.length = N) : (q.take (t + 1) ++ r.drop (t + 1)).length ≤ N ∧ ∀ j, j < (q.take (t + 1) ++ r.drop (t + 1)).length → (j = t ∧ (q.take (t + 1) ++ r.drop (t + 1)).getD j 0 = q.getD t 0) ∨ (j ≠ t ∧ j < (q.take t ++ r.drop t).length ∧ (q.take (t + 1) ++ r.drop (t + 1)).getD j 0 = (q.take t ++ r.drop t).getD j 0) := by
  have l1 : (q.take (t + 1)).length = t + 1 := by rw [List.length_take]; omega
  have l0 : (q.take t).length = t := by rw [List.length_take]; omega
  have L1 : (q.take (t + 1) ++ r.drop (t + 1)).length = N := by rw [List.length_append, l1, List.length_drop]; omega
  have L0 : (q.take t ++ r.drop t).length = N := by rw [List.length_append, l0, List.length_drop]; omega
  refine ⟨by omega, fun j hj => ?_⟩
  rw [L1] at hj
  rw [L0]
  by_cases e : j = t
  · refine Or.inl ⟨e, ?_⟩
    subst e
    simp only [List.getD]
    rw [List.getElem?_append_left (by omega), List.getElem?_take, if_pos (by omega)]
  · refine Or.inr ⟨e, hj, ?_⟩
    simp only [List.getD]
    by_cases a : j < t
    · rw [List.getElem?_append_left (by omega), List.getElem?_append_left (by omega), List.getElem?_take, List.getElem?_take, if_pos (by omega), if_pos (by omega)]
    · rw [List.getElem?_append_right (by omega), List.getElem?_append_right (by omega), l1, l0, List.getElem?_drop, List.getElem?_drop]
      congr 2
      omega
set_option maxRecDepth 20000 in
set_option maxHeartbeats 2000000 in
theorem l_ncp {m i k d j b1 b2 : Nat} {A : Nat → Nat} {fs : List Value} {f : Nat → Option Nat} {BL : List (Nat × List Nat)} {q r : List Nat} {X1 X2 X3 X4 X5 X6 X7 X8 X9 X10 X11 X12 X13 X14 X15 X16 X17 : sA} (hj0 : 0 < j) (hj : j < 10) (hjl : j < BL.length) (hb1 : f (j - 1) = some b1) (hb2 : f j = some b2) (hq1 : BL[j - 1]? = some (b1, q)) (hq : q.length = 40) (hr : r.length = 40) (hfs27 : fs[27]? = some (.ref (A 27))) {Q : Option Value → eH → Prop} (kk : ∀ h, stars [pt (A 27) (.inl (7, 10, .inr (.inr (.inr (.inr f))))), lst (iaE 40) (BL.set j (b2, q)), pt d (.inr (10, fs)), X1, X2, X3, X4, X5, X6, X7, X8, X9, X10, X11, X12, X13, X14, X15, X16, X17] h → EE mX15_name 2 60 0 0 Q 182 [some (.ref m), some (.int (nI i)), some (.int (nI k)), some (.ref d), some (.int (nI j)), none] [] h 0 0) : ∀ (n : Nat) (t : Nat) (h : eH), 40 - t < n → t ≤ 40 → stars [pt (A 27) (.inl (7, 10, .inr (.inr (.inr (.inr f))))), lst (iaE 40) (BL.set j (b2, q.take t ++ r.drop t)), pt d (.inr (10, fs)), X1, X2, X3, X4, X5, X6, X7, X8, X9, X10, X11, X12, X13, X14, X15, X16, X17] h → EE mX15_name 2 60 0 0 (Q) 147 [some (.ref m), some (.int (nI i)), some (.int (nI k)), some (.ref d), some (.int (nI j)), some (.int (nI t))] [] h 0 0 := by
  intro n
  induction n with
  | zero => intro t h hlt hle hL; exact absurd hlt (by omega)
  | succ n ih =>
    intro t h hlt hle hL
    refine e_iload 149 dX15_name_147 rfl rfl ?_
    refine e_bipush 151 (v := (nI 40)) dX15_name_149 rfl (by decide) ?_
    refine e_icmp_ge 182 154 dX15_name_151 rfl rfl (fun c151 => ?_) (fun c151 => ?_)
    · have k151 := j_ge_t (a := t) (b := 40) (by omega) (by omega) c151
      have e9 : t = 40 := by omega
      subst e9
      rw [List.take_of_length_le (by omega), List.drop_of_length_le (by omega), List.append_nil] at hL
      refine e_wk [some (.ref m), some (.int (nI i)), some (.int (nI k)), some (.ref d), some (.int (nI j)), none] ⟨rfl, rfl, rfl, rfl, rfl, trivial⟩ ?_
      exact kk h hL
    · have k151 := j_ge_f (a := t) (b := 40) (by omega) (by omega) c151
      refine e_aload_n 155 dX15_name_154 rfl rfl ?_
      refine e_get 158 (v := (.ref (A 27))) dX15_name_155 rfl fl_X15_235_10 (stars_at _ 2 hL rfl) hfs27 ?_
      refine e_iload 160 dX15_name_158 rfl rfl ?_
      refine e_aald 161 (v := .ref b2) dX15_name_160 rfl (stars_at _ 0 hL rfl) rfl (Or.inr ⟨_, rfl⟩) (vp_in_nI (by omega) (by decide)) (by rw [nI_clamp (by omega), hb2]; rfl) ?_
      refine e_iload 163 dX15_name_161 rfl rfl ?_
      refine e_aload_n 164 dX15_name_163 rfl rfl ?_
      refine e_get 167 (v := (.ref (A 27))) dX15_name_164 rfl fl_X15_235_10 (stars_at _ 2 hL rfl) hfs27 ?_
      refine e_iload 169 dX15_name_167 rfl rfl ?_
      refine e_iconst 170 (v := (nI 1)) dX15_name_169 rfl (by decide) ?_
      refine e_isub 171 (v := (nI (j - 1))) dX15_name_170 rfl (pk_sub (by omega)) ?_
      refine e_aald 172 (v := .ref b1) dX15_name_171 rfl (stars_at _ 0 hL rfl) rfl (Or.inr ⟨_, rfl⟩) (vp_in_nI (by omega) (by decide)) (by rw [nI_clamp (by omega), hb1]; rfl) ?_
      refine e_iload 174 dX15_name_172 rfl rfl ?_
      refine p_iald2 175 hL 1 (j := j - 1) (e := (b1, q)) rfl (by rw [List.getElem?_set_ne (by omega)]; exact hq1) dX15_name_174 rfl (show t < q.length by omega) (by decide) ?_
      refine p_iast2 176 hL 1 (j := j) (e := (b2, q.take t ++ r.drop t)) (r' := q.take (t + 1) ++ r.drop (t + 1)) (L' := [pt (A 27) (.inl (7, 10, .inr (.inr (.inr (.inr f))))), lst (iaE 40) ((BL.set j (b2, q.take t ++ r.drop t)).set j (b2, q.take (t + 1) ++ r.drop (t + 1))), pt d (.inr (10, fs)), X1, X2, X3, X4, X5, X6, X7, X8, X9, X10, X11, X12, X13, X14, X15, X16, X17]) rfl (List.getElem?_set_self hjl) dX15_name_175 rfl (show t < 40 by omega) (by decide) (iw_cp (by omega) (by omega) hr) rfl (fun h hL => ?_)
      rw [List.set_set] at hL
      have hL : stars [pt (A 27) (.inl (7, 10, .inr (.inr (.inr (.inr f))))), lst (iaE 40) (BL.set j (b2, q.take (t + 1) ++ r.drop (t + 1))), pt d (.inr (10, fs)), X1, X2, X3, X4, X5, X6, X7, X8, X9, X10, X11, X12, X13, X14, X15, X16, X17] h := hL
      refine e_iinc 179 (v := (nI (t + 1))) (ls' := [some (.ref m), some (.int (nI i)), some (.int (nI k)), some (.ref d), some (.int (nI j)), some (.int (nI (t + 1)))]) dX15_name_176 rfl rfl (nI_add t 1) (by decide) rfl ?_
      refine e_goto 147 dX15_name_179 rfl ?_
      refine e_wk [some (.ref m), some (.int (nI i)), some (.int (nI k)), some (.ref d), some (.int (nI j)), some (.int (nI (t + 1)))] ⟨rfl, rfl, rfl, rfl, rfl, rfl, trivial⟩ ?_
      exact ih (t + 1) h (by omega) (by omega) hL
theorem set_sm9 {α : Type} {L : List α} {i : Nat} {x : α} (h : L[i]? = some x) : L.set i x = L := by
  refine List.ext_getElem? (fun j => ?_)
  by_cases e : i = j
  · subst e
    rw [List.getElem?_set_self (List.getElem?_eq_some_iff.mp h).1, h]
  · rw [List.getElem?_set_ne e]
set_option maxRecDepth 20000 in
set_option maxHeartbeats 2000000 in
theorem l_nsh {m i k d : Nat} {A : Nat → Nat} {fs : List Value} {T : List (Nat × List Nat)} {X1 X2 X3 X4 X5 X6 X7 X8 X9 X10 X11 X12 X13 X14 X15 : sA} (hT : T.length < 10) (hTb : ∀ e ∈ T, e.1 < 65536) (hs : (kys T).Pairwise (· < ·)) (hno : k ∉ kys T) (hk : k < 65536) (hfs25 : fs[25]? = some (.ref (A 25))) (hfs26 : fs[26]? = some (.ref (A 26))) (hfs27 : fs[27]? = some (.ref (A 27))) {Q : Option Value → eH → Prop} (kk : ∀ j K Z C h, j ≤ T.length → sh9 T j K Z C → (∀ q, q < j → keM T q < k) → (∀ q, j ≤ q → q < T.length → k < keM T q) → stars [pt d (.inr (10, fs)), iar (A 25) 10 K, iar (A 26) 10 Z, grd (A 27) 10 40 C, X1, X2, X3, X4, X5, X6, X7, X8, X9, X10, X11, X12, X13, X14, X15] h → EE mX15_name 2 60 0 0 Q 188 [some (.ref m), some (.int (nI i)), some (.int (nI k)), some (.ref d), some (.int (nI j)), none] [] h 0 0) : ∀ (n : Nat) (j : Nat) (K Z : List Nat) (C : Nat → List Nat) (h : eH), j < n → j ≤ T.length → sh9 T j K Z C → (∀ q, j ≤ q → q < T.length → k < keM T q) → stars [pt d (.inr (10, fs)), iar (A 25) 10 K, iar (A 26) 10 Z, grd (A 27) 10 40 C, X1, X2, X3, X4, X5, X6, X7, X8, X9, X10, X11, X12, X13, X14, X15] h → EE mX15_name 2 60 0 0 (Q) 94 [some (.ref m), some (.int (nI i)), some (.int (nI k)), some (.ref d), some (.int (nI j)), none] [] h 0 0 := by
  intro n
  induction n with
  | zero => intro j K Z C h hlt hjT h9 h2 hL; exact absurd hlt (by omega)
  | succ n ih =>
    intro j K Z C h hlt hjT h9 h2 hL
    have hK := h9.1
    have hZ := h9.2.1
    refine e_iload 96 dX15_name_94 rfl rfl ?_
    refine e_if_le 188 99 dX15_name_96 rfl rfl (fun c96 => ?_) (fun c96 => ?_)
    · have k96 := j_le0_t (a := j) (by omega) c96
      have h1n : ∀ q, q < j → keM T q < k := fun q hq => absurd hq (by omega)
      exact kk j K Z C h hjT h9 h1n h2 hL
    · have k96 := j_le0_f (a := j) (by omega) c96
      have hk9 := (h9.2.2.2.1 (j - 1) (by omega) (by omega)).1
      rw [← keM_g (show j - 1 < T.length by omega)] at hk9
      have hkb : K.getD (j - 1) 0 < 65536 := by rw [hk9, keM_g (show j - 1 < T.length by omega)]; exact hTb _ (List.getElem_mem _)
      refine e_aload_n 100 dX15_name_99 rfl rfl ?_
      refine e_get 103 (v := (.ref (A 25))) dX15_name_100 rfl fl_X15_224_10 (stars_at _ 0 hL rfl) hfs25 ?_
      refine e_iload 105 dX15_name_103 rfl rfl ?_
      refine e_iconst 106 (v := (nI 1)) dX15_name_105 rfl (by decide) ?_
      refine e_isub 107 (v := (nI (j - 1))) dX15_name_106 rfl (pk_sub (by omega)) ?_
      have b107 := hkb
      refine v_iald 108 (r := K) (iar_V _ 1 hL rfl) (k := (j - 1)) (x := (K.getD (j - 1) 0)) dX15_name_107 rfl (by omega) (by omega) rfl ?_
      refine e_iload_n 109 dX15_name_108 rfl rfl ?_
      refine e_icmp_le 188 112 dX15_name_109 rfl rfl (fun c109 => ?_) (fun c109 => ?_)
      · have k109 := j_le_t (a := (K.getD (j - 1) 0)) (b := k) (by omega) (by omega) c109
        have h1n : ∀ q, q < j → keM T q < k := fun q hq => by
          have a1 : keM T (j - 1) < k := Nat.lt_of_le_of_ne (by omega) (fun e => hno (kys_mem.mpr ⟨j - 1, by omega, e⟩))
          by_cases e : q = j - 1
          · rw [e]; exact a1
          · have := srt_lt hs (show q < j - 1 by omega) (by omega)
            omega
        exact kk j K Z C h hjT h9 h1n h2 hL
      · have k109 := j_le_f (a := (K.getD (j - 1) 0)) (b := k) (by omega) (by omega) c109
        refine e_aload_n 113 dX15_name_112 rfl rfl ?_
        refine e_get 116 (v := (.ref (A 25))) dX15_name_113 rfl fl_X15_224_10 (stars_at _ 0 hL rfl) hfs25 ?_
        refine e_iload 118 dX15_name_116 rfl rfl ?_
        refine e_aload_n 119 dX15_name_118 rfl rfl ?_
        refine e_get 122 (v := (.ref (A 25))) dX15_name_119 rfl fl_X15_224_10 (stars_at _ 0 hL rfl) hfs25 ?_
        refine e_iload 124 dX15_name_122 rfl rfl ?_
        refine e_iconst 125 (v := (nI 1)) dX15_name_124 rfl (by decide) ?_
        refine e_isub 126 (v := (nI (j - 1))) dX15_name_125 rfl (pk_sub (by omega)) ?_
        have b126 := hkb
        refine v_iald 127 (r := K) (iar_V _ 1 hL rfl) (k := (j - 1)) (x := (K.getD (j - 1) 0)) dX15_name_126 rfl (by omega) (by omega) rfl ?_
        refine p_iastR 128 hL 1 (r := K) (r' := (K.set j (K.getD (j - 1) 0))) (k := j) (v := (K.getD (j - 1) 0)) (L' := [pt d (.inr (10, fs)), iar (A 25) 10 (K.set j (K.getD (j - 1) 0)), iar (A 26) 10 Z, grd (A 27) 10 40 C, X1, X2, X3, X4, X5, X6, X7, X8, X9, X10, X11, X12, X13, X14, X15]) rfl dX15_name_127 rfl (by omega) (by omega) (iw_set (by omega) (by omega)) rfl (fun h hL => ?_)
        refine e_aload_n 129 dX15_name_128 rfl rfl ?_
        refine e_get 132 (v := (.ref (A 26))) dX15_name_129 rfl fl_X15_232_10 (stars_at _ 0 hL rfl) hfs26 ?_
        refine e_iload 134 dX15_name_132 rfl rfl ?_
        refine e_aload_n 135 dX15_name_134 rfl rfl ?_
        refine e_get 138 (v := (.ref (A 26))) dX15_name_135 rfl fl_X15_232_10 (stars_at _ 0 hL rfl) hfs26 ?_
        refine e_iload 140 dX15_name_138 rfl rfl ?_
        refine e_iconst 141 (v := (nI 1)) dX15_name_140 rfl (by decide) ?_
        refine e_isub 142 (v := (nI (j - 1))) dX15_name_141 rfl (pk_sub (by omega)) ?_
        refine v_iald 143 (r := Z) (iar_V _ 2 hL rfl) (k := (j - 1)) (x := (Z.getD (j - 1) 0)) dX15_name_142 rfl (by omega) (by omega) rfl ?_
        refine p_iastR 144 hL 2 (r := Z) (r' := (Z.set j (Z.getD (j - 1) 0))) (k := j) (v := (Z.getD (j - 1) 0)) (L' := [pt d (.inr (10, fs)), iar (A 25) 10 (K.set j (K.getD (j - 1) 0)), iar (A 26) 10 (Z.set j (Z.getD (j - 1) 0)), grd (A 27) 10 40 C, X1, X2, X3, X4, X5, X6, X7, X8, X9, X10, X11, X12, X13, X14, X15]) rfl dX15_name_143 rfl (by omega) (by omega) (iw_set (by omega) (by omega)) rfl (fun h hL => ?_)
        have hL : stars [grd (A 27) 10 40 C, pt d (.inr (10, fs)), iar (A 25) 10 (K.set j (K.getD (j - 1) 0)), iar (A 26) 10 (Z.set j (Z.getD (j - 1) 0)), X1, X2, X3, X4, X5, X6, X7, X8, X9, X10, X11, X12, X13, X14, X15] h := stars_ixn hL 19 rfl [3, 0, 1, 2, 4, 5, 6, 7, 8, 9, 10, 11, 12, 13, 14, 15, 16, 17, 18] (by decide) rfl
        obtain ⟨BL, g9, hL⟩ := grd_o hL
        obtain ⟨b1, hb1⟩ := gOK_at g9 (show j - 1 < 10 by omega)
        obtain ⟨b2, hb2⟩ := gOK_at g9 (show j < 10 by omega)
        have hbl : BL.length = 10 := g9.1
        have hL : stars [pt (A 27) (.inl (7, 10, .inr (.inr (.inr (.inr (adP BL)))))), lst (iaE 40) BL, pt d (.inr (10, fs)), iar (A 25) 10 (K.set j (K.getD (j - 1) 0)), iar (A 26) 10 (Z.set j (Z.getD (j - 1) 0)), X1, X2, X3, X4, X5, X6, X7, X8, X9, X10, X11, X12, X13, X14, X15] h := hL
        have eB : BL = BL.set j (b2, (C (j - 1)).take 0 ++ (C j).drop 0) := by rw [List.take_zero, List.drop_zero, List.nil_append]; exact (set_sm9 hb2).symm
        have hL2 : stars [pt (A 27) (.inl (7, 10, .inr (.inr (.inr (.inr (adP BL)))))), lst (iaE 40) (BL.set j (b2, (C (j - 1)).take 0 ++ (C j).drop 0)), pt d (.inr (10, fs)), iar (A 25) 10 (K.set j (K.getD (j - 1) 0)), iar (A 26) 10 (Z.set j (Z.getD (j - 1) 0)), X1, X2, X3, X4, X5, X6, X7, X8, X9, X10, X11, X12, X13, X14, X15] h := by rw [← eB]; exact hL
        refine e_iconst 145 (v := (nI 0)) dX15_name_144 rfl (by decide) ?_
        refine e_istore 147 (ls' := [some (.ref m), some (.int (nI i)), some (.int (nI k)), some (.ref d), some (.int (nI j)), some (.int (nI 0))]) dX15_name_145 rfl (by decide) rfl ?_
        refine l_ncp (f := adP BL) (BL := BL) (q := C (j - 1)) (r := C j) (by omega) (by omega) (by omega) (adP_at hb1) (adP_at hb2) hb1 (h9.2.2.1 _ (by omega)) (h9.2.2.1 _ (by omega)) hfs27 (fun h hL => ?_) _ 0 h (Nat.lt_succ_self _) (by decide) hL2
        rw [adP_set hb2 (C (j - 1))] at hL
        have hL : stars [grd (A 27) 10 40 (upL C j (C (j - 1))), pt d (.inr (10, fs)), iar (A 25) 10 (K.set j (K.getD (j - 1) 0)), iar (A 26) 10 (Z.set j (Z.getD (j - 1) 0)), X1, X2, X3, X4, X5, X6, X7, X8, X9, X10, X11, X12, X13, X14, X15] h := grd_c (gOK_set g9 hb2) hL
        have hL : stars [pt d (.inr (10, fs)), iar (A 25) 10 (K.set j (K.getD (j - 1) 0)), iar (A 26) 10 (Z.set j (Z.getD (j - 1) 0)), grd (A 27) 10 40 (upL C j (C (j - 1))), X1, X2, X3, X4, X5, X6, X7, X8, X9, X10, X11, X12, X13, X14, X15] h := stars_ixn hL 19 rfl [1, 2, 3, 0, 4, 5, 6, 7, 8, 9, 10, 11, 12, 13, 14, 15, 16, 17, 18] (by decide) rfl
        refine e_iinc 185 (v := (nI (j - 1))) (ls' := [some (.ref m), some (.int (nI i)), some (.int (nI k)), some (.ref d), some (.int (nI (j - 1))), none]) dX15_name_182 rfl rfl (by rw [← pk_sub (show 1 ≤ j by omega), Int32.sub_eq_add_neg]; rfl) (by decide) rfl ?_
        refine e_goto 94 dX15_name_185 rfl ?_
        have h2n : ∀ q, j - 1 ≤ q → q < T.length → k < keM T q := fun q hq hl => (Nat.eq_or_lt_of_le hq).elim (fun e => by rw [← e]; omega) (fun e => h2 q (by omega) hl)
        refine e_wk [some (.ref m), some (.int (nI i)), some (.int (nI k)), some (.ref d), some (.int (nI (j - 1))), none] ⟨rfl, rfl, rfl, rfl, rfl, trivial⟩ ?_
        exact ih (j - 1) _ _ _ h (by omega) (by omega) (sh9_step (by omega) (by omega) (by omega) h9) h2n hL
