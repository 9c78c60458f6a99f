/-! the reference: name, its end -/
set_option maxRecDepth 20000 in
set_option maxHeartbeats 2000000 in
theorem l_ntp {m i k d j b : Nat} {A F w : Nat → Nat} {bg : Bool} {fs : List Value} {R : sA} {tp c : List Nat} {X1 X2 X3 X4 X5 X6 X7 X8 X9 X10 X11 X12 X13 X14 X15 : sA} (hj : j < 10) (ht : tp.length ≤ 40) (hc : c.length = 40) (hR : ∀ h, R h → grP (A 27) 10 j b h) (hfs27 : fs[27]? = some (.ref (A 27))) {Q : Option Value → eH → Prop} (kk : ∀ h, stars [iar b 40 (tp ++ c.drop tp.length), R, pt d (.inr (10, fs)), pt m (.inr (13, moF F (upN w 35 tp.length) bg)), iar (F 34) 400 tp, X1, X2, X3, X4, X5, X6, X7, X8, X9, X10, X11, X12, X13, X14, X15] h → EE mX15_name 2 60 0 0 Q 242 [some (.ref m), some (.int (nI i)), some (.int (nI k)), some (.ref d), some (.int (nI j)), none] [] h 0 0) : ∀ (n : Nat) (t : Nat) (h : eH), tp.length - t < n → t ≤ tp.length → stars [iar b 40 (tp.take t ++ c.drop t), R, pt d (.inr (10, fs)), pt m (.inr (13, moF F (upN w 35 tp.length) bg)), iar (F 34) 400 tp, X1, X2, X3, X4, X5, X6, X7, X8, X9, X10, X11, X12, X13, X14, X15] h → EE mX15_name 2 60 0 0 (Q) 210 [some (.ref m), some (.int (nI i)), some (.int (nI k)), some (.ref d), some (.int (nI j)), some (.int (nI t))] [] h 0 0 := by
  intro n
  induction n with
  | zero => intro t h hlt hle hL; exact absurd hlt (by omega)
  | succ n ih =>
    intro t h hlt hle hL
    refine e_iload 212 dX15_name_210 rfl rfl ?_
    refine e_aload_n 213 dX15_name_212 rfl rfl ?_
    refine e_get 216 (v := (.int (nI tp.length))) dX15_name_213 rfl fl_X15_432_13 (stars_at _ 3 hL rfl) rfl ?_
    refine e_icmp_ge 242 219 dX15_name_216 rfl rfl (fun c216 => ?_) (fun c216 => ?_)
    · have k216 := j_ge_t (a := t) (b := tp.length) (by omega) (by omega) c216
      rw [show t = tp.length by omega, List.take_length] at hL
      refine e_wk [some (.ref m), some (.int (nI i)), some (.int (nI k)), some (.ref d), some (.int (nI j)), none] ⟨rfl, rfl, rfl, rfl, rfl, trivial⟩ ?_
      exact kk h hL
    · have k216 := j_ge_f (a := t) (b := tp.length) (by omega) (by omega) c216
      refine e_aload_n 220 dX15_name_219 rfl rfl ?_
      refine e_get 223 (v := (.ref (A 27))) dX15_name_220 rfl fl_X15_235_10 (stars_at _ 2 hL rfl) hfs27 ?_
      refine e_iload 225 dX15_name_223 rfl rfl ?_
      refine v_aaldP 226 (grP_V _ 1 hL rfl hR) dX15_name_225 rfl (by omega) (by omega) ?_
      refine e_iload 228 dX15_name_226 rfl rfl ?_
      refine e_aload_n 229 dX15_name_228 rfl rfl ?_
      refine e_get 232 (v := (.ref (F 34))) dX15_name_229 rfl fl_X15_66_13 (stars_at _ 3 hL rfl) rfl ?_
      refine e_iload 234 dX15_name_232 rfl rfl ?_
      refine v_iald 235 (r := tp) (iar_V _ 4 hL rfl) (k := t) (x := (tp.getD t 0)) dX15_name_234 rfl (by omega) (by omega) rfl ?_
      refine p_iastR 236 hL 0 (r := (tp.take t ++ c.drop t)) (r' := (tp.take (t + 1) ++ c.drop (t + 1))) (k := t) (v := (tp.getD t 0)) (L' := [iar b 40 (tp.take (t + 1) ++ c.drop (t + 1)), R, pt d (.inr (10, fs)), pt m (.inr (13, moF F (upN w 35 tp.length) bg)), iar (F 34) 400 tp, X1, X2, X3, X4, X5, X6, X7, X8, X9, X10, X11, X12, X13, X14, X15]) rfl dX15_name_235 rfl (by omega) (by omega) (iw_cp (by omega) (by omega) hc) rfl (fun h hL => ?_)
      refine e_iinc 239 (v := (nI (t + 1))) (ls' := [some (.ref m), some (.int (nI i)), some (.int (nI k)), some (.ref d), some (.int (nI j)), some (.int (nI (t + 1)))]) dX15_name_236 rfl rfl (nI_add t 1) (by decide) rfl ?_
      refine e_goto 210 dX15_name_239 rfl ?_
      refine e_wk [some (.ref m), some (.int (nI i)), some (.int (nI k)), some (.ref d), some (.int (nI j)), some (.int (nI (t + 1)))] ⟨rfl, rfl, rfl, rfl, rfl, rfl, trivial⟩ ?_
      exact ih (t + 1) h (by omega) (by omega) hL
theorem rw_less {U : List (Nat × List Nat)} {c : List Nat} {q : Nat} (h1 : ∀ hl : q < U.length, c.take U[q].2.length = U[q].2) (h2 : c.length = 40) (h3 : (rwM U q).length ≤ 40) : (rwM U q).length ≤ c.length ∧ ∀ p, p < (rwM U q).length → c.getD p 0 = (rwM U q).getD p 0 := by
  refine ⟨by omega, fun p hp => ?_⟩
  by_cases hl : q < U.length
  · have e : rwM U q = U[q].2 := rwM_at hl
    rw [e] at hp ⊢
    have z := congrArg (fun l => l.getD p 0) (h1 hl)
    simp only [List.getD] at z ⊢
    rw [List.getElem?_take, if_pos hp] at z
    exact z
  · have e : rwM U q = [] := by
      show (U[q]?.getD (0, [])).2 = []
      rw [List.getElem?_eq_none (by omega)]
      rfl
    rw [e] at hp
    exact absurd hp (Nat.not_lt_zero _)
set_option maxRecDepth 20000 in
set_option maxHeartbeats 2000000 in
theorem g_188 {m i k d j : Nat} {A F w : Nat → Nat} {bg : Bool} {fs : List Value} {U : List (Nat × List Nat)} {tp K Z : List Nat} {C : Nat → List Nat} {X1 X2 X3 X4 X5 X6 X7 X8 X9 X10 X11 X12 X13 : sA} (hj : j < 10) (ht : tp.length ≤ 40) (hK : K.length = 10) (hZ : Z.length = 10) (hC : ∀ q, q < 10 → (C q).length = 40) (hUl : U.length ≤ 10) (hUr : ∀ q, (rwM U q).length ≤ 40) (hU : ∀ c : List Nat, c.take tp.length = tp → ∀ q (hq : q < U.length), sl9 (K.set j k) (Z.set j tp.length) (upL C j c) q U[q]) (hfs25 : fs[25]? = some (.ref (A 25))) (hfs26 : fs[26]? = some (.ref (A 26))) (hfs27 : fs[27]? = some (.ref (A 27))) {Q : Option Value → eH → Prop} (kk : ∀ h, stars [pt d (.inr (10, fs)), iar (A 25) 10 (kys U), iar (A 26) 10 (szs U), grd (A 27) 10 40 (rwM U), pt m (.inr (13, moF F (upN w 35 tp.length) bg)), iar (F 34) 400 tp, X1, X2, X3, X4, X5, X6, X7, X8, X9, X10, X11, X12, X13] h → EE mX15_name 2 60 0 0 Q 242 [some (.ref m), some (.int (nI i)), some (.int (nI k)), some (.ref d), some (.int (nI j)), none] [] h 0 0) {h : eH} (hL : stars [pt d (.inr (10, fs)), iar (A 25) 10 K, iar (A 26) 10 Z, grd (A 27) 10 40 C, pt m (.inr (13, moF F (upN w 35 tp.length) bg)), iar (F 34) 400 tp, X1, X2, X3, X4, X5, X6, X7, X8, X9, X10, X11, X12, X13] h) : EE mX15_name 2 60 0 0 (Q) 188 [some (.ref m), some (.int (nI i)), some (.int (nI k)), some (.ref d), some (.int (nI j)), none] [] h 0 0 := by
  refine e_aload_n 189 dX15_name_188 rfl rfl ?_
  refine e_get 192 (v := (.ref (A 25))) dX15_name_189 rfl fl_X15_224_10 (stars_at _ 0 hL rfl) hfs25 ?_
  refine e_iload 194 dX15_name_192 rfl rfl ?_
  refine e_iload_n 195 dX15_name_194 rfl rfl ?_
  refine p_iastR 196 hL 1 (r := K) (r' := (K.set j k)) (k := j) (v := k) (L' := [pt d (.inr (10, fs)), iar (A 25) 10 (K.set j k), iar (A 26) 10 Z, grd (A 27) 10 40 C, pt m (.inr (13, moF F (upN w 35 tp.length) bg)), iar (F 34) 400 tp, X1, X2, X3, X4, X5, X6, X7, X8, X9, X10, X11, X12, X13]) rfl dX15_name_195 rfl (by omega) (by omega) (iw_set (by omega) (by omega)) rfl (fun h hL => ?_)
  refine e_aload_n 197 dX15_name_196 rfl rfl ?_
  refine e_get 200 (v := (.ref (A 26))) dX15_name_197 rfl fl_X15_232_10 (stars_at _ 0 hL rfl) hfs26 ?_
  refine e_iload 202 dX15_name_200 rfl rfl ?_
  refine e_aload_n 203 dX15_name_202 rfl rfl ?_
  refine e_get 206 (v := (.int (nI tp.length))) dX15_name_203 rfl fl_X15_432_13 (stars_at _ 4 hL rfl) rfl ?_
  refine p_iastR 207 hL 2 (r := Z) (r' := (Z.set j tp.length)) (k := j) (v := tp.length) (L' := [pt d (.inr (10, fs)), iar (A 25) 10 (K.set j k), iar (A 26) 10 (Z.set j tp.length), grd (A 27) 10 40 C, pt m (.inr (13, moF F (upN w 35 tp.length) bg)), iar (F 34) 400 tp, X1, X2, X3, X4, X5, X6, X7, X8, X9, X10, X11, X12, X13]) rfl dX15_name_206 rfl (by omega) (by omega) (iw_set (by omega) (by omega)) rfl (fun h hL => ?_)
  have hL : stars [grd (A 27) 10 40 C, pt d (.inr (10, fs)), iar (A 25) 10 (K.set j k), iar (A 26) 10 (Z.set j tp.length), pt m (.inr (13, moF F (upN w 35 tp.length) bg)), iar (F 34) 400 tp, X1, X2, X3, X4, X5, X6, X7, X8, X9, X10, X11, X12, X13] h := stars_ixn hL 19 rfl [3, 0, 1, 2, 4, 5, 6, 7, 8, 9, 10, 11, 12, 13, 14, 15, 16, 17, 18] (by decide) rfl
  obtain ⟨b9, R9, hL, hR9, hC9⟩ := grd_at (i := j) (show j < 10 by omega) hL
  have hL : stars [iar b9 40 (C j), R9, pt d (.inr (10, fs)), iar (A 25) 10 (K.set j k), iar (A 26) 10 (Z.set j tp.length), pt m (.inr (13, moF F (upN w 35 tp.length) bg)), iar (F 34) 400 tp, X1, X2, X3, X4, X5, X6, X7, X8, X9, X10, X11, X12, X13] h := hL
  have hL : stars [iar b9 40 (C j), R9, pt d (.inr (10, fs)), pt m (.inr (13, moF F (upN w 35 tp.length) bg)), iar (F 34) 400 tp, iar (A 25) 10 (K.set j k), iar (A 26) 10 (Z.set j tp.length), X1, X2, X3, X4, X5, X6, X7, X8, X9, X10, X11, X12, X13] h := stars_ixn hL 20 rfl [0, 1, 2, 5, 6, 3, 4, 7, 8, 9, 10, 11, 12, 13, 14, 15, 16, 17, 18, 19] (by decide) rfl
  refine e_iconst 208 (v := (nI 0)) dX15_name_207 rfl (by decide) ?_
  refine e_istore 210 (ls' := [some (.ref m), some (.int (nI i)), some (.int (nI k)), some (.ref d), some (.int (nI j)), some (.int (nI 0))]) dX15_name_208 rfl (by decide) rfl ?_
  have hL2 : stars [iar b9 40 (tp.take 0 ++ (C j).drop 0), R9, pt d (.inr (10, fs)), pt m (.inr (13, moF F (upN w 35 tp.length) bg)), iar (F 34) 400 tp, iar (A 25) 10 (K.set j k), iar (A 26) 10 (Z.set j tp.length), X1, X2, X3, X4, X5, X6, X7, X8, X9, X10, X11, X12, X13] h := by rw [List.take_zero, List.drop_zero, List.nil_append]; exact hL
  refine l_ntp (w := w) (by omega) ht (hC j (by omega)) hR9 hfs27 (fun h hL => ?_) _ 0 h (Nat.lt_succ_self _) (Nat.zero_le _) hL2
  have hL : stars [grd (A 27) 10 40 (upL C j (tp ++ (C j).drop tp.length)), pt d (.inr (10, fs)), pt m (.inr (13, moF F (upN w 35 tp.length) bg)), iar (F 34) 400 tp, iar (A 25) 10 (K.set j k), iar (A 26) 10 (Z.set j tp.length), X1, X2, X3, X4, X5, X6, X7, X8, X9, X10, X11, X12, X13] h := hC9 _ _ _ hL
  have hU9 := hU (tp ++ (C j).drop tp.length) List.take_left
  have hL : stars [iar (A 25) 10 (K.set j k), grd (A 27) 10 40 (upL C j (tp ++ (C j).drop tp.length)), pt d (.inr (10, fs)), pt m (.inr (13, moF F (upN w 35 tp.length) bg)), iar (F 34) 400 tp, iar (A 26) 10 (Z.set j tp.length), X1, X2, X3, X4, X5, X6, X7, X8, X9, X10, X11, X12, X13] h := stars_ixn hL 19 rfl [4, 0, 1, 2, 3, 5, 6, 7, 8, 9, 10, 11, 12, 13, 14, 15, 16, 17, 18] (by decide) rfl
  have hL : stars [iar (A 25) 10 (kys U), grd (A 27) 10 40 (upL C j (tp ++ (C j).drop tp.length)), pt d (.inr (10, fs)), pt m (.inr (13, moF F (upN w 35 tp.length) bg)), iar (F 34) 400 tp, iar (A 26) 10 (Z.set j tp.length), X1, X2, X3, X4, X5, X6, X7, X8, X9, X10, X11, X12, X13] h := iar_less (by rw [kys_len, List.length_set]; omega) (fun q hq => by rw [kys_len] at hq; rw [(hU9 q hq).1]; simp [kys, List.getD, hq]) hL
  have hL : stars [iar (A 26) 10 (Z.set j tp.length), iar (A 25) 10 (kys U), grd (A 27) 10 40 (upL C j (tp ++ (C j).drop tp.length)), pt d (.inr (10, fs)), pt m (.inr (13, moF F (upN w 35 tp.length) bg)), iar (F 34) 400 tp, X1, X2, X3, X4, X5, X6, X7, X8, X9, X10, X11, X12, X13] h := stars_ixn hL 19 rfl [5, 0, 1, 2, 3, 4, 6, 7, 8, 9, 10, 11, 12, 13, 14, 15, 16, 17, 18] (by decide) rfl
  have hL : stars [iar (A 26) 10 (szs U), iar (A 25) 10 (kys U), grd (A 27) 10 40 (upL C j (tp ++ (C j).drop tp.length)), pt d (.inr (10, fs)), pt m (.inr (13, moF F (upN w 35 tp.length) bg)), iar (F 34) 400 tp, X1, X2, X3, X4, X5, X6, X7, X8, X9, X10, X11, X12, X13] h := iar_less (by rw [szs_len, List.length_set]; omega) (fun q hq => by rw [szs_len] at hq; rw [(hU9 q hq).2.1]; simp [szs, List.getD, hq]) hL
  have hL : stars [grd (A 27) 10 40 (upL C j (tp ++ (C j).drop tp.length)), iar (A 26) 10 (szs U), iar (A 25) 10 (kys U), pt d (.inr (10, fs)), pt m (.inr (13, moF F (upN w 35 tp.length) bg)), iar (F 34) 400 tp, X1, X2, X3, X4, X5, X6, X7, X8, X9, X10, X11, X12, X13] h := stars_ixn hL 19 rfl [2, 0, 1, 3, 4, 5, 6, 7, 8, 9, 10, 11, 12, 13, 14, 15, 16, 17, 18] (by decide) rfl
  have hCl : ∀ q, q < 10 → ((upL C j (tp ++ (C j).drop tp.length)) q).length = 40 := fun q hq => by
    by_cases e : q = j
    · rw [e, upL_s, List.length_append, List.length_drop, hC j (by omega)]; omega
    · rw [upL_n e]; exact hC q hq
  have hL : stars [grd (A 27) 10 40 (rwM U), iar (A 26) 10 (szs U), iar (A 25) 10 (kys U), pt d (.inr (10, fs)), pt m (.inr (13, moF F (upN w 35 tp.length) bg)), iar (F 34) 400 tp, X1, X2, X3, X4, X5, X6, X7, X8, X9, X10, X11, X12, X13] h := grd_less (fun q hq => rw_less (fun hl => (hU9 q hl).2.2) (hCl q hq) (hUr q)) hL
  have hL : stars [pt d (.inr (10, fs)), iar (A 25) 10 (kys U), iar (A 26) 10 (szs U), grd (A 27) 10 40 (rwM U), pt m (.inr (13, moF F (upN w 35 tp.length) bg)), iar (F 34) 400 tp, X1, X2, X3, X4, X5, X6, X7, X8, X9, X10, X11, X12, X13] h := stars_ixn hL 19 rfl [3, 2, 1, 0, 4, 5, 6, 7, 8, 9, 10, 11, 12, 13, 14, 15, 16, 17, 18] (by decide) rfl
  exact kk h hL
