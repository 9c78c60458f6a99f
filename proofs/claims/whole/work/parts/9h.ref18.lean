/-! the reference: names -/
set_option maxRecDepth 20000 in
set_option maxHeartbeats 2000000 in
theorem g_X15_names {m d code id : Nat} {F w : Nat → Nat} {bg : Bool} {s : DS} (he : okE s) (hok : okD s) (hcode : code < 256) (hid : id < 256) (h4 : code = 4 → ixM (dS s 2) (nI id) ≠ none) {h : eH} (hL : stars [ansP m F w bg ([]), rdv d s] h) : EE mX15_names 1 22 0 0 (fun x9 h' => ∃ K, (x9 = none ∧ K = [ansP m F w bg (nmA (dS s 2) code id), rdv d s]) ∧ stars K h') 22 [some (.ref m), some (.ref d), some (.int (nI code)), some (.int (nI id)), none, none, none, none, none, none, none] [.int (nI (ttM code))] h 0 0 := by
  have hsh := (okE_sh he).2.2
  have hsl := shO_le hsh
  have hss := shO_sort hsh
  have hul := sortT_len (M := dS s 2)
  have htm := ttM_lt (code := code)
  have htg : ttG (dS s 2) ≤ 131 := by rw [← lvF_G]; exact (lvF_lt _).2
  refine e_istore 24 (ls' := [some (.ref m), some (.ref d), some (.int (nI code)), some (.int (nI id)), some (.int (nI (ttM code))), none, none, none, none, none, none]) dX15_names_22 rfl (by decide) rfl ?_
  refine e_sipush 27 (v := (nI 129)) dX15_names_24 rfl (by decide) ?_
  refine e_istore 29 (ls' := [some (.ref m), some (.ref d), some (.int (nI code)), some (.int (nI id)), some (.int (nI (ttM code))), some (.int (nI 129)), none, none, none, none, none]) dX15_names_27 rfl (by decide) rfl ?_
  refine e_iconst 30 (v := (nI 0)) dX15_names_29 rfl (by decide) ?_
  refine e_istore 32 (ls' := [some (.ref m), some (.ref d), some (.int (nI code)), some (.int (nI id)), some (.int (nI (ttM code))), some (.int (nI 129)), some (.int (nI 0)), none, none, none, none]) dX15_names_30 rfl (by decide) rfl ?_
  refine e_lc (ls' := [some (.ref m), some (.ref d), some (.int (nI code)), some (.int (nI id)), some (.int (nI (ttM code))), some (.int (nI (lvF (sortT (dS s 2)) 0))), some (.int (nI 0)), none, none, none, none]) rfl ?_
  refine ul_names he hok hcode hid (rdv_V _ 1 hL rfl) ?_ _ 0 (Nat.lt_succ_self _) (Nat.zero_le _)
  refine e_aload_n 93 dX15_names_92 rfl rfl ?_
  refine e_bipush 95 (v := (nI 43)) dX15_names_93 rfl (by decide) ?_
  refine p_callV 98 hL [0, 1] 2 rfl (by decide) (L1 := [ansP m F w bg ([])]) (L2 := [rdv d s]) rfl ans_O 0 rfl dX15_names_95 rfl cv_X15_92 (k_saysB (by first | omega | (simp only [List.length_append, List.length_cons, List.length_nil, w2_len, List.length_take, rbR_len, rwR_len, List.length_reverse, tvR_len] <;> omega)) (by omega)) rfl rfl (Nat.le_of_ble_eq_true rfl) ⟨by decide, by omega, by omega⟩ (fun r1 L1 h q hL => ?_)
  obtain ⟨rfl, rfl⟩ := q
  have hL : stars [ansP m F w bg ([] ++ [43]), rdv d s] h := hL
  refine e_aload_n 99 dX15_names_98 rfl rfl ?_
  refine e_bipush 101 (v := (nI 14)) dX15_names_99 rfl (by decide) ?_
  refine p_callV 104 hL [0, 1] 2 rfl (by decide) (L1 := [ansP m F w bg ([] ++ [43])]) (L2 := [rdv d s]) rfl ans_O 0 rfl dX15_names_101 rfl cv_X15_92 (k_saysB (by first | omega | (simp only [List.length_append, List.length_cons, List.length_nil, w2_len, List.length_take, rbR_len, rwR_len, List.length_reverse, tvR_len] <;> omega)) (by omega)) rfl rfl (Nat.le_of_ble_eq_true rfl) ⟨by decide, by omega, by omega⟩ (fun r1 L1 h q hL => ?_)
  obtain ⟨rfl, rfl⟩ := q
  have hL : stars [ansP m F w bg (([] ++ [43]) ++ [14]), rdv d s] h := hL
  refine e_aload_n 105 dX15_names_104 rfl rfl ?_
  refine e_iload_n 106 dX15_names_105 rfl rfl ?_
  refine p_callV 109 hL [0, 1] 2 rfl (by decide) (L1 := [ansP m F w bg (([] ++ [43]) ++ [14])]) (L2 := [rdv d s]) rfl ans_O 0 rfl dX15_names_106 rfl cv_X15_92 (k_saysB (by first | omega | (simp only [List.length_append, List.length_cons, List.length_nil, w2_len, List.length_take, rbR_len, rwR_len, List.length_reverse, tvR_len] <;> omega)) (by omega)) rfl rfl (Nat.le_of_ble_eq_true rfl) ⟨by decide, by omega, by omega⟩ (fun r1 L1 h q hL => ?_)
  obtain ⟨rfl, rfl⟩ := q
  have hL : stars [ansP m F w bg ((([] ++ [43]) ++ [14]) ++ [code]), rdv d s] h := hL
  refine e_aload_n 110 dX15_names_109 rfl rfl ?_
  refine e_iload 112 dX15_names_110 rfl rfl ?_
  refine p_callV 115 hL [0, 1] 2 rfl (by decide) (L1 := [ansP m F w bg ((([] ++ [43]) ++ [14]) ++ [code])]) (L2 := [rdv d s]) rfl ans_O 0 rfl dX15_names_112 rfl cv_X15_92 (k_saysB (by first | omega | (simp only [List.length_append, List.length_cons, List.length_nil, w2_len, List.length_take, rbR_len, rwR_len, List.length_reverse, tvR_len] <;> omega)) (by omega)) rfl rfl (Nat.le_of_ble_eq_true rfl) ⟨by decide, by omega, by omega⟩ (fun r1 L1 h q hL => ?_)
  obtain ⟨rfl, rfl⟩ := q
  have hL : stars [ansP m F w bg (((([] ++ [43]) ++ [14]) ++ [code]) ++ [(ttG (dS s 2))]), rdv d s] h := hL
  refine e_aload_n 116 dX15_names_115 rfl rfl ?_
  refine e_iconst 117 (v := (nI 0)) dX15_names_116 rfl (by decide) ?_
  refine p_callV 120 hL [0, 1] 2 rfl (by decide) (L1 := [ansP m F w bg (((([] ++ [43]) ++ [14]) ++ [code]) ++ [(ttG (dS s 2))])]) (L2 := [rdv d s]) rfl ans_O 0 rfl dX15_names_117 rfl cv_X15_92 (k_saysB (by first | omega | (simp only [List.length_append, List.length_cons, List.length_nil, w2_len, List.length_take, rbR_len, rwR_len, List.length_reverse, tvR_len] <;> omega)) (by omega)) rfl rfl (Nat.le_of_ble_eq_true rfl) ⟨by decide, by omega, by omega⟩ (fun r1 L1 h q hL => ?_)
  obtain ⟨rfl, rfl⟩ := q
  have hL : stars [ansP m F w bg ((((([] ++ [43]) ++ [14]) ++ [code]) ++ [(ttG (dS s 2))]) ++ [0]), rdv d s] h := hL
  refine e_aload_n 121 dX15_names_120 rfl rfl ?_
  refine e_iconst 122 (v := (nI 0)) dX15_names_121 rfl (by decide) ?_
  refine p_callV 125 hL [0, 1] 2 rfl (by decide) (L1 := [ansP m F w bg ((((([] ++ [43]) ++ [14]) ++ [code]) ++ [(ttG (dS s 2))]) ++ [0])]) (L2 := [rdv d s]) rfl ans_O 0 rfl dX15_names_122 rfl cv_X15_92 (k_saysB (by first | omega | (simp only [List.length_append, List.length_cons, List.length_nil, w2_len, List.length_take, rbR_len, rwR_len, List.length_reverse, tvR_len] <;> omega)) (by omega)) rfl rfl (Nat.le_of_ble_eq_true rfl) ⟨by decide, by omega, by omega⟩ (fun r1 L1 h q hL => ?_)
  obtain ⟨rfl, rfl⟩ := q
  have hL : stars [ansP m F w bg (((((([] ++ [43]) ++ [14]) ++ [code]) ++ [(ttG (dS s 2))]) ++ [0]) ++ [0]), rdv d s] h := hL
  refine e_aload_n 126 dX15_names_125 rfl rfl ?_
  refine e_iconst 127 (v := (nI 0)) dX15_names_126 rfl (by decide) ?_
  refine p_callV 130 hL [0, 1] 2 rfl (by decide) (L1 := [ansP m F w bg (((((([] ++ [43]) ++ [14]) ++ [code]) ++ [(ttG (dS s 2))]) ++ [0]) ++ [0])]) (L2 := [rdv d s]) rfl ans_O 0 rfl dX15_names_127 rfl cv_X15_92 (k_saysB (by first | omega | (simp only [List.length_append, List.length_cons, List.length_nil, w2_len, List.length_take, rbR_len, rwR_len, List.length_reverse, tvR_len] <;> omega)) (by omega)) rfl rfl (Nat.le_of_ble_eq_true rfl) ⟨by decide, by omega, by omega⟩ (fun r1 L1 h q hL => ?_)
  obtain ⟨rfl, rfl⟩ := q
  have hL : stars [ansP m F w bg ((((((([] ++ [43]) ++ [14]) ++ [code]) ++ [(ttG (dS s 2))]) ++ [0]) ++ [0]) ++ [0]), rdv d s] h := hL
  refine e_iconst 131 (v := (nI 0)) dX15_names_130 rfl (by decide) ?_
  refine e_istore 133 (ls' := [some (.ref m), some (.ref d), some (.int (nI code)), some (.int (nI id)), some (.int (nI (ttM code))), some (.int (nI (ttG (dS s 2)))), some (.int (nI 0)), none, none, none, none]) dX15_names_131 rfl (by decide) rfl ?_
  refine e_aload_n 134 dX15_names_133 rfl rfl ?_
  refine e_iload_n 135 dX15_names_134 rfl rfl ?_
  have hv135 := rdv_V _ 1 hL rfl
  obtain ⟨A135, o135, -⟩ := _root_.id hv135
  refine u_callV 138 dX15_names_135 rfl cv_X15_134 o135 (u_X12_textOf hv135 he) rfl rfl (Nat.le_of_ble_eq_true rfl) (by decide) ⟨by omega, by omega⟩ ?_
  rcases hx135 : ixM (sortT (dS s 2)) (nI id) with _ | i135
  · have n135 := hx135
    refine e_istore 140 (ls' := [some (.ref m), some (.ref d), some (.int (nI code)), some (.int (nI id)), some (.int (nI (ttM code))), some (.int (nI (ttG (dS s 2)))), some (.int (nI 0)), some (.int (-1)), none, none, none]) dX15_names_138 rfl (by decide) rfl ?_
    refine e_iload_n 141 dX15_names_140 rfl rfl ?_
    refine e_iconst 142 (v := (nI 4)) dX15_names_141 rfl (by decide) ?_
    refine e_icmp_eq 157 145 dX15_names_142 rfl rfl (fun c142 => ?_) (fun c142 => ?_)
    · have k142 := j_eq_t (a := code) (b := 4) (by omega) (by omega) c142
      exact absurd (ixM_sort.mp n135) (h4 k142)
    · have k142 := j_eq_f (a := code) (b := 4) (by omega) (by omega) c142
      refine e_iload 147 dX15_names_145 rfl rfl ?_
      refine e_iconst 148 (v := (-1)) dX15_names_147 rfl (by decide) ?_
      refine e_icmp_eq 161 151 dX15_names_148 rfl rfl (fun c148 => ?_) (fun c148 => absurd c148 (fun z => z rfl))
      refine e_iload 163 dX15_names_161 rfl rfl ?_
      refine e_istore 165 (ls' := [some (.ref m), some (.ref d), some (.int (nI code)), some (.int (nI id)), some (.int (nI (ttM code))), some (.int (nI (ttG (dS s 2)))), some (.int (nI 0)), some (.int (-1)), some (.int (nI 0)), none, none]) dX15_names_163 rfl (by decide) rfl ?_
      refine e_iload_n 166 dX15_names_165 rfl rfl ?_
      refine e_iconst 167 (v := (nI 4)) dX15_names_166 rfl (by decide) ?_
      refine e_icmp_ne 177 170 dX15_names_167 rfl rfl (fun c167 => ?_) (fun c167 => absurd c167 (fun z => absurd (j_eq_t (by omega) (by omega) z) (by omega)))
      refine e_aload_n 178 dX15_names_177 rfl rfl ?_
      obtain ⟨A178, v178_0, v178_1, v178_2, v178_3, v178_4, v178_5, v178_6, v178_7, v178_8, v178_9, v178_10, v178_11, v178_12, v178_13, v178_14, v178_15, v178_16, v178_17, v178_18, v178_19, v178_20, v178_21⟩ := rdv_V _ 1 hL rfl
      refine e_get 181 dX15_names_178 rfl fl_X15_221_10 v178_0 rfl ?_
      refine e_istore 183 (ls' := [some (.ref m), some (.ref d), some (.int (nI code)), some (.int (nI id)), some (.int (nI (ttM code))), some (.int (nI (ttG (dS s 2)))), some (.int (nI 0)), some (.int (-1)), some (.int (nI 0)), some (.int (nI (dS s 2).length)), none]) dX15_names_181 rfl (by decide) rfl ?_
      refine e_wk [some (.ref m), some (.ref d), some (.int (nI code)), some (.int (nI id)), some (.int (nI (ttM code))), none, some (.int (nI 0)), none, some (.int (nI 0)), some (.int (nI (dS s 2).length)), none] ⟨rfl, rfl, rfl, rfl, rfl, rfl, rfl, rfl, trivial⟩ ?_
      exact l_X15_names he hok hcode hid (f0 := 0) k142 (X := ttL (dS s 2) code (ttM code) 10 (if id ≤ ttM code ∧ (ixM (dS s 2) (nI id)).isSome = true then some id else lsT (dS s 2) 0 (ttM code)) 0 [43, 14, code, ttG (dS s 2), 0, 0, 0]) _ 10 0 [43, 14, code, ttG (dS s 2), 0, 0, 0] h (Nat.lt_succ_self _) (Nat.le_refl _) (by omega) (by omega) (Nat.le_of_ble_eq_true rfl) (Nat.le_of_ble_eq_true rfl) rfl rfl (by rw [Nat.sub_self]; exact congrArg (fun o => ttL (dS s 2) code (ttM code) 10 o 0 [43, 14, code, ttG (dS s 2), 0, 0, 0]) (show nxT (sortT (dS s 2)) (ttM code) 0 = _ by rw [if_neg (fun z => by rw [ixM_sort.mp n135] at z; cases z.2), nx_0 hsh.2.2])) hL
  · have l135 := ixM_lt hx135
    have hke := ixM_e hx135
    have hkb := (shO_at hss (by decide) i135).1
    have hkid := j_eq_t (by omega) (by omega) hke
    have hrl := (shO_at hss (by decide) i135).2
    refine e_istore 140 (ls' := [some (.ref m), some (.ref d), some (.int (nI code)), some (.int (nI id)), some (.int (nI (ttM code))), some (.int (nI (ttG (dS s 2)))), some (.int (nI 0)), some (.int (nI i135)), none, none, none]) dX15_names_138 rfl (by decide) rfl ?_
    refine e_iload_n 141 dX15_names_140 rfl rfl ?_
    refine e_iconst 142 (v := (nI 4)) dX15_names_141 rfl (by decide) ?_
    refine e_icmp_eq 157 145 dX15_names_142 rfl rfl (fun c142 => ?_) (fun c142 => ?_)
    · have k142 := j_eq_t (a := code) (b := 4) (by omega) (by omega) c142
      refine e_iload 159 dX15_names_157 rfl rfl ?_
      refine e_istore 161 (ls' := [some (.ref m), some (.ref d), some (.int (nI code)), some (.int (nI id)), some (.int (nI (ttM code))), some (.int (nI (ttG (dS s 2)))), some (.int (nI i135)), some (.int (nI i135)), none, none, none]) dX15_names_159 rfl (by decide) rfl ?_
      refine e_iload 163 dX15_names_161 rfl rfl ?_
      refine e_istore 165 (ls' := [some (.ref m), some (.ref d), some (.int (nI code)), some (.int (nI id)), some (.int (nI (ttM code))), some (.int (nI (ttG (dS s 2)))), some (.int (nI i135)), some (.int (nI i135)), some (.int (nI i135)), none, none]) dX15_names_163 rfl (by decide) rfl ?_
      refine e_iload_n 166 dX15_names_165 rfl rfl ?_
      refine e_iconst 167 (v := (nI 4)) dX15_names_166 rfl (by decide) ?_
      refine e_icmp_ne 177 170 dX15_names_167 rfl rfl (fun c167 => absurd c167 (fun z => z (congrArg nI (show code = 4 by omega)))) (fun c167 => ?_)
      refine e_iload 172 dX15_names_170 rfl rfl ?_
      refine e_iconst 173 (v := (nI 1)) dX15_names_172 rfl (by decide) ?_
      refine e_iadd 174 (v := (nI (i135 + 1))) dX15_names_173 rfl (nI_add i135 1) ?_
      refine e_goto 181 dX15_names_174 rfl ?_
      refine e_istore 183 (ls' := [some (.ref m), some (.ref d), some (.int (nI code)), some (.int (nI id)), some (.int (nI (ttM code))), some (.int (nI (ttG (dS s 2)))), some (.int (nI i135)), some (.int (nI i135)), some (.int (nI i135)), some (.int (nI (i135 + 1))), none]) dX15_names_181 rfl (by decide) rfl ?_
      refine e_wk [some (.ref m), some (.ref d), some (.int (nI code)), some (.int (nI id)), some (.int (nI (ttM code))), none, some (.int (nI i135)), none, some (.int (nI i135)), some (.int (nI (i135 + 1))), none] ⟨rfl, rfl, rfl, rfl, rfl, rfl, rfl, rfl, trivial⟩ ?_
      have hL : stars [ansP m F w bg [43, 14, code, ttG (dS s 2), 0, 0, 0], rdv d s] h := hL
      refine e_iload 185 dX15_names_183 rfl rfl ?_
      refine e_iload 187 dX15_names_185 rfl rfl ?_
      refine e_icmp_ge 296 190 dX15_names_187 rfl rfl (fun c187 => absurd c187 (fun z => absurd (j_ge_t (by omega) (by omega) z) (by omega))) (fun c187 => ?_)
      refine e_aload_n 191 dX15_names_190 rfl rfl ?_
      obtain ⟨A191, v191_0, v191_1, v191_2, v191_3, v191_4, v191_5, v191_6, v191_7, v191_8, v191_9, v191_10, v191_11, v191_12, v191_13, v191_14, v191_15, v191_16, v191_17, v191_18, v191_19, v191_20, v191_21⟩ := rdv_V _ 1 hL rfl
      refine e_get 194 dX15_names_191 rfl fl_X15_224_10 v191_0 rfl ?_
      refine e_iload 196 dX15_names_194 rfl rfl ?_
      refine v_iald 197 v191_15 (k := i135) (x := (keM (sortT (dS s 2)) i135)) dX15_names_196 rfl (by simp only [kys_len] <;> omega) (by omega) kys_at ?_
      refine e_iload_n 198 dX15_names_197 rfl rfl ?_
      refine e_iconst 199 (v := (nI 4)) dX15_names_198 rfl (by decide) ?_
      refine e_icmp_ne 208 202 dX15_names_199 rfl rfl (fun c199 => absurd c199 (fun z => z (congrArg nI (show code = 4 by omega)))) (fun c199 => ?_)
      refine e_sipush 205 (v := (nI 255)) dX15_names_202 rfl (by decide) ?_
      refine e_goto 210 dX15_names_205 rfl ?_
      refine e_icmp_gt 296 213 dX15_names_210 rfl rfl (fun c210 => absurd c210 (fun z => absurd (j_gt_t (by omega) (by omega) z) (by omega))) (fun c210 => ?_)
      refine e_aload_n 214 dX15_names_213 rfl rfl ?_
      refine e_get 217 dX15_names_214 rfl fl_X15_89_13 (ans_V _ 0 hL rfl) rfl ?_
      refine e_iconst 218 (v := (nI 2)) dX15_names_217 rfl (by decide) ?_
      refine e_iadd 219 (v := (nI (([43, 14, code, ttG (dS s 2), 0, 0, 0]).length + 2))) dX15_names_218 rfl (nI_add (([43, 14, code, ttG (dS s 2), 0, 0, 0]).length) 2) ?_
      refine e_aload_n 220 dX15_names_219 rfl rfl ?_
      refine e_get 223 dX15_names_220 rfl fl_X15_232_10 v191_0 rfl ?_
      refine e_iload 225 dX15_names_223 rfl rfl ?_
      refine v_iald 226 v191_16 (k := i135) (x := (rwM (sortT (dS s 2)) i135).length) dX15_names_225 rfl (by simp only [szs_len] <;> omega) (by omega) szs_at ?_
      refine e_iadd 227 (v := (nI ((([43, 14, code, ttG (dS s 2), 0, 0, 0]).length + 2) + ((rwM (sortT (dS s 2)) i135).length)))) dX15_names_226 rfl (nI_add (([43, 14, code, ttG (dS s 2), 0, 0, 0]).length + 2) ((rwM (sortT (dS s 2)) i135).length)) ?_
      refine e_sipush 230 (v := (nI 253)) dX15_names_227 rfl (by decide) ?_
      refine e_icmp_gt 296 233 dX15_names_230 rfl rfl (fun c230 => absurd c230 (fun z => absurd (j_gt_t (by simp only [List.length_append, List.length_cons, List.length_nil] <;> omega) (by omega) z) (by simp only [List.length_append, List.length_cons, List.length_nil] <;> omega))) (fun c230 => ?_)
      refine e_aload_n 234 dX15_names_233 rfl rfl ?_
      refine e_aload_n 235 dX15_names_234 rfl rfl ?_
      refine e_get 238 dX15_names_235 rfl fl_X15_224_10 v191_0 rfl ?_
      refine e_iload 240 dX15_names_238 rfl rfl ?_
      refine v_iald 241 v191_15 (k := i135) (x := (keM (sortT (dS s 2)) i135)) dX15_names_240 rfl (by simp only [kys_len] <;> omega) (by omega) kys_at ?_
      refine p_callV 244 hL [0, 1] 2 rfl (by decide) (L1 := [ansP m F w bg ([43, 14, code, ttG (dS s 2), 0, 0, 0])]) (L2 := [rdv d s]) rfl ans_O 0 rfl dX15_names_241 rfl cv_X15_92 (k_saysB (by first | omega | (simp only [List.length_append, List.length_cons, List.length_nil, w2_len, List.length_take, rbR_len, rwR_len, List.length_reverse, tvR_len] <;> omega)) (by omega)) rfl rfl (Nat.le_of_ble_eq_true rfl) ⟨by decide, by omega, by omega⟩ (fun r1 L1 h q hL => ?_)
      obtain ⟨rfl, rfl⟩ := q
      have hL : stars [ansP m F w bg ([43, 14, code, ttG (dS s 2), 0, 0, 0] ++ [(keM (sortT (dS s 2)) i135)]), rdv d s] h := hL
      refine e_aload_n 245 dX15_names_244 rfl rfl ?_
      refine e_aload_n 246 dX15_names_245 rfl rfl ?_
      obtain ⟨A246, v246_0, v246_1, v246_2, v246_3, v246_4, v246_5, v246_6, v246_7, v246_8, v246_9, v246_10, v246_11, v246_12, v246_13, v246_14, v246_15, v246_16, v246_17, v246_18, v246_19, v246_20, v246_21⟩ := rdv_V _ 1 hL rfl
      refine e_get 249 dX15_names_246 rfl fl_X15_232_10 v246_0 rfl ?_
      refine e_iload 251 dX15_names_249 rfl rfl ?_
      refine v_iald 252 v246_16 (k := i135) (x := (rwM (sortT (dS s 2)) i135).length) dX15_names_251 rfl (by simp only [szs_len] <;> omega) (by omega) szs_at ?_
      refine p_callV 255 hL [0, 1] 2 rfl (by decide) (L1 := [ansP m F w bg ([43, 14, code, ttG (dS s 2), 0, 0, 0] ++ [(keM (sortT (dS s 2)) i135)])]) (L2 := [rdv d s]) rfl ans_O 0 rfl dX15_names_252 rfl cv_X15_92 (k_saysB (by first | omega | (simp only [List.length_append, List.length_cons, List.length_nil, w2_len, List.length_take, rbR_len, rwR_len, List.length_reverse, tvR_len] <;> omega)) (by omega)) rfl rfl (Nat.le_of_ble_eq_true rfl) ⟨by decide, by omega, by omega⟩ (fun r1 L1 h q hL => ?_)
      obtain ⟨rfl, rfl⟩ := q
      have hL : stars [ansP m F w bg (([43, 14, code, ttG (dS s 2), 0, 0, 0] ++ [(keM (sortT (dS s 2)) i135)]) ++ [((rwM (sortT (dS s 2)) i135).length)]), rdv d s] h := hL
      refine e_iconst 256 (v := (nI 0)) dX15_names_255 rfl (by decide) ?_
      refine e_istore 258 (ls' := [some (.ref m), some (.ref d), some (.int (nI code)), some (.int (nI id)), some (.int (nI (ttM code))), none, some (.int (nI i135)), none, some (.int (nI i135)), some (.int (nI (i135 + 1))), some (.int (nI 0))]) dX15_names_256 rfl (by decide) rfl ?_
      refine e_wk [some (.ref m), some (.ref d), some (.int (nI code)), some (.int (nI id)), some (.int (nI (ttM code))), none, some (.int (nI i135)), none, some (.int (nI i135)), some (.int (nI (i135 + 1))), some (.int (nI 0))] ⟨rfl, rfl, rfl, rfl, rfl, rfl, rfl, rfl, rfl, trivial⟩ ?_
      refine l_X15_names1 he hok hcode hid (r := (([43, 14, code, ttG (dS s 2), 0, 0, 0] ++ [(keM (sortT (dS s 2)) i135)]) ++ [(rwM (sortT (dS s 2)) i135).length])) (by omega) (by simp only [List.length_append, List.length_cons, List.length_nil] <;> omega) (fun h hL => ?_) _ 0 h (Nat.lt_succ_self _) (Nat.zero_le _) (by rw [List.take_zero, List.append_nil]; exact hL)
      refine e_iinc 293 (v := (nI (i135 + 1))) (ls' := [some (.ref m), some (.ref d), some (.int (nI code)), some (.int (nI id)), some (.int (nI (ttM code))), none, some (.int (nI i135)), none, some (.int (nI (i135 + 1))), some (.int (nI (i135 + 1))), none]) dX15_names_290 rfl rfl (nI_add i135 1) (by decide) rfl ?_
      refine e_goto 183 dX15_names_293 rfl ?_
      refine e_iload 185 dX15_names_183 rfl rfl ?_
      refine e_iload 187 dX15_names_185 rfl rfl ?_
      refine e_icmp_ge 296 190 dX15_names_187 rfl rfl (fun c187 => ?_) (fun c187 => absurd c187 (fun z => absurd (j_ge_f (by omega) (by omega) z) (by omega)))
      have hL := ans_o hL
      have hL : stars [pt m (.inr (13, moF F (upN w 4 ((([43, 14, code, ttG (dS s 2), 0, 0, 0] ++ [(keM (sortT (dS s 2)) i135)]) ++ [(rwM (sortT (dS s 2)) i135).length]) ++ (rwM (sortT (dS s 2)) i135)).length) bg)), iar (F 3) 300 ((([43, 14, code, ttG (dS s 2), 0, 0, 0] ++ [(keM (sortT (dS s 2)) i135)]) ++ [(rwM (sortT (dS s 2)) i135).length]) ++ (rwM (sortT (dS s 2)) i135)), rdv d s] h := hL
      refine e_aload_n 297 dX15_names_296 rfl rfl ?_
      refine e_get 300 dX15_names_297 rfl fl_X15_15_13 (stars_at _ 0 hL rfl) rfl ?_
      refine e_bipush 302 (v := (nI 6)) dX15_names_300 rfl (by decide) ?_
      refine e_iload 304 dX15_names_302 rfl rfl ?_
      refine e_iload 306 dX15_names_304 rfl rfl ?_
      refine e_isub 307 (v := (nI 1)) dX15_names_306 rfl (by rw [pk_sub (by omega), Nat.add_sub_cancel_left]) ?_
      refine p_iastR 308 hL 1 (r := ((([43, 14, code, ttG (dS s 2), 0, 0, 0] ++ [(keM (sortT (dS s 2)) i135)]) ++ [(rwM (sortT (dS s 2)) i135).length]) ++ (rwM (sortT (dS s 2)) i135))) (r' := (((([43, 14, code, ttG (dS s 2), 0, 0, 0] ++ [(keM (sortT (dS s 2)) i135)]) ++ [(rwM (sortT (dS s 2)) i135).length]) ++ (rwM (sortT (dS s 2)) i135)).set 6 1)) (k := 6) (v := 1) (L' := [pt m (.inr (13, moF F (upN w 4 ((([43, 14, code, ttG (dS s 2), 0, 0, 0] ++ [(keM (sortT (dS s 2)) i135)]) ++ [(rwM (sortT (dS s 2)) i135).length]) ++ (rwM (sortT (dS s 2)) i135)).length) bg)), iar (F 3) 300 (((([43, 14, code, ttG (dS s 2), 0, 0, 0] ++ [(keM (sortT (dS s 2)) i135)]) ++ [(rwM (sortT (dS s 2)) i135).length]) ++ (rwM (sortT (dS s 2)) i135)).set 6 1), rdv d s]) rfl dX15_names_307 rfl (by omega) (by omega) (iw_set (by simp only [List.length_append, List.length_cons, List.length_nil] <;> omega) (by simp only [List.length_append, List.length_cons, List.length_nil] <;> omega)) rfl (fun h hL => ?_)
      refine e_iload 310 dX15_names_308 rfl rfl ?_
      refine e_iload 312 dX15_names_310 rfl rfl ?_
      refine e_icmp_ge 354 315 dX15_names_312 rfl rfl (fun c312 => ?_) (fun c312 => absurd c312 (fun z => absurd (j_ge_f (by omega) (by omega) z) (by omega)))
      exact e_vret dX15_names_354 rfl (by omega) (by omega) (⟨_, ⟨rfl, rfl⟩, by (obtain ⟨i9, hx9, hr9⟩ := ix_row (T := dS s 2) (k := i135) hsh.2.2 (fun e he => Nat.lt_trans (hsh.2.1 e he).1 (by decide)) (by omega)); rw [hkid] at hx9 hL; rw [nmA, if_pos ⟨by rw [ttM, if_neg (by omega), if_neg (by omega)]; omega, ix_sort hx135⟩, ttL_s hx9 (by rw [hr9]; simp only [List.length_cons, List.length_nil]; omega), if_pos (by omega), ttL_none, hr9, ttE_none rfl rfl (by simp only [List.length_append, List.length_cons, List.length_nil]; omega)]; exact ans_c (by rw [List.length_set]; exact hL)⟩)
    · have k142 := j_eq_f (a := code) (b := 4) (by omega) (by omega) c142
      refine e_iload 147 dX15_names_145 rfl rfl ?_
      refine e_iconst 148 (v := (-1)) dX15_names_147 rfl (by decide) ?_
      refine e_icmp_eq 161 151 dX15_names_148 rfl rfl (fun c148 => absurd c148 (nI_ne_m1 (by omega))) (fun c148 => ?_)
      refine e_iload_n 152 dX15_names_151 rfl rfl ?_
      refine e_iload 154 dX15_names_152 rfl rfl ?_
      refine e_icmp_gt 161 157 dX15_names_154 rfl rfl (fun c154 => ?_) (fun c154 => ?_)
      · have k154 := j_gt_t (a := id) (b := (ttM code)) (by omega) (by omega) c154
        refine e_iload 163 dX15_names_161 rfl rfl ?_
        refine e_istore 165 (ls' := [some (.ref m), some (.ref d), some (.int (nI code)), some (.int (nI id)), some (.int (nI (ttM code))), some (.int (nI (ttG (dS s 2)))), some (.int (nI 0)), some (.int (nI i135)), some (.int (nI 0)), none, none]) dX15_names_163 rfl (by decide) rfl ?_
        refine e_iload_n 166 dX15_names_165 rfl rfl ?_
        refine e_iconst 167 (v := (nI 4)) dX15_names_166 rfl (by decide) ?_
        refine e_icmp_ne 177 170 dX15_names_167 rfl rfl (fun c167 => ?_) (fun c167 => absurd c167 (fun z => absurd (j_eq_t (by omega) (by omega) z) (by omega)))
        refine e_aload_n 178 dX15_names_177 rfl rfl ?_
        obtain ⟨A178, v178_0, v178_1, v178_2, v178_3, v178_4, v178_5, v178_6, v178_7, v178_8, v178_9, v178_10, v178_11, v178_12, v178_13, v178_14, v178_15, v178_16, v178_17, v178_18, v178_19, v178_20, v178_21⟩ := rdv_V _ 1 hL rfl
        refine e_get 181 dX15_names_178 rfl fl_X15_221_10 v178_0 rfl ?_
        refine e_istore 183 (ls' := [some (.ref m), some (.ref d), some (.int (nI code)), some (.int (nI id)), some (.int (nI (ttM code))), some (.int (nI (ttG (dS s 2)))), some (.int (nI 0)), some (.int (nI i135)), some (.int (nI 0)), some (.int (nI (dS s 2).length)), none]) dX15_names_181 rfl (by decide) rfl ?_
        refine e_wk [some (.ref m), some (.ref d), some (.int (nI code)), some (.int (nI id)), some (.int (nI (ttM code))), none, some (.int (nI 0)), none, some (.int (nI 0)), some (.int (nI (dS s 2).length)), none] ⟨rfl, rfl, rfl, rfl, rfl, rfl, rfl, rfl, trivial⟩ ?_
        exact l_X15_names he hok hcode hid (f0 := 0) k142 (X := ttL (dS s 2) code (ttM code) 10 (if id ≤ ttM code ∧ (ixM (dS s 2) (nI id)).isSome = true then some id else lsT (dS s 2) 0 (ttM code)) 0 [43, 14, code, ttG (dS s 2), 0, 0, 0]) _ 10 0 [43, 14, code, ttG (dS s 2), 0, 0, 0] h (Nat.lt_succ_self _) (Nat.le_refl _) (by omega) (by omega) (Nat.le_of_ble_eq_true rfl) (Nat.le_of_ble_eq_true rfl) rfl rfl (by rw [Nat.sub_self]; exact congrArg (fun o => ttL (dS s 2) code (ttM code) 10 o 0 [43, 14, code, ttG (dS s 2), 0, 0, 0]) (show nxT (sortT (dS s 2)) (ttM code) 0 = _ by rw [if_neg (fun z => absurd z.1 (by omega)), nx_0 hsh.2.2])) hL
      · have k154 := j_gt_f (a := id) (b := (ttM code)) (by omega) (by omega) c154
        refine e_iload 159 dX15_names_157 rfl rfl ?_
        refine e_istore 161 (ls' := [some (.ref m), some (.ref d), some (.int (nI code)), some (.int (nI id)), some (.int (nI (ttM code))), some (.int (nI (ttG (dS s 2)))), some (.int (nI i135)), some (.int (nI i135)), none, none, none]) dX15_names_159 rfl (by decide) rfl ?_
        refine e_iload 163 dX15_names_161 rfl rfl ?_
        refine e_istore 165 (ls' := [some (.ref m), some (.ref d), some (.int (nI code)), some (.int (nI id)), some (.int (nI (ttM code))), some (.int (nI (ttG (dS s 2)))), some (.int (nI i135)), some (.int (nI i135)), some (.int (nI i135)), none, none]) dX15_names_163 rfl (by decide) rfl ?_
        refine e_iload_n 166 dX15_names_165 rfl rfl ?_
        refine e_iconst 167 (v := (nI 4)) dX15_names_166 rfl (by decide) ?_
        refine e_icmp_ne 177 170 dX15_names_167 rfl rfl (fun c167 => ?_) (fun c167 => absurd c167 (fun z => absurd (j_eq_t (by omega) (by omega) z) (by omega)))
        refine e_aload_n 178 dX15_names_177 rfl rfl ?_
        obtain ⟨A178, v178_0, v178_1, v178_2, v178_3, v178_4, v178_5, v178_6, v178_7, v178_8, v178_9, v178_10, v178_11, v178_12, v178_13, v178_14, v178_15, v178_16, v178_17, v178_18, v178_19, v178_20, v178_21⟩ := rdv_V _ 1 hL rfl
        refine e_get 181 dX15_names_178 rfl fl_X15_221_10 v178_0 rfl ?_
        refine e_istore 183 (ls' := [some (.ref m), some (.ref d), some (.int (nI code)), some (.int (nI id)), some (.int (nI (ttM code))), some (.int (nI (ttG (dS s 2)))), some (.int (nI i135)), some (.int (nI i135)), some (.int (nI i135)), some (.int (nI (dS s 2).length)), none]) dX15_names_181 rfl (by decide) rfl ?_
        refine e_wk [some (.ref m), some (.ref d), some (.int (nI code)), some (.int (nI id)), some (.int (nI (ttM code))), none, some (.int (nI i135)), none, some (.int (nI i135)), some (.int (nI (dS s 2).length)), none] ⟨rfl, rfl, rfl, rfl, rfl, rfl, rfl, rfl, trivial⟩ ?_
        exact l_X15_names he hok hcode hid (f0 := i135) k142 (X := ttL (dS s 2) code (ttM code) 10 (if id ≤ ttM code ∧ (ixM (dS s 2) (nI id)).isSome = true then some id else lsT (dS s 2) 0 (ttM code)) 0 [43, 14, code, ttG (dS s 2), 0, 0, 0]) _ 10 i135 [43, 14, code, ttG (dS s 2), 0, 0, 0] h (Nat.lt_succ_self _) (Nat.le_refl _) (by omega) (by omega) (Nat.le_of_ble_eq_true rfl) (Nat.le_of_ble_eq_true rfl) rfl rfl (by rw [Nat.sub_self]; exact congrArg (fun o => ttL (dS s 2) code (ttM code) 10 o 0 [43, 14, code, ttG (dS s 2), 0, 0, 0]) (show nxT (sortT (dS s 2)) (ttM code) i135 = _ by rw [if_pos ⟨by omega, ix_sort hx135⟩, nx_t (by omega) (by omega), hkid])) hL
set_option maxRecDepth 20000 in
set_option maxHeartbeats 2000000 in
theorem k_X15_names {m d code id : Nat} {F w : Nat → Nat} {bg : Bool} {s : DS} (he : okE s) (hok : okD s) (hcode : code < 256) (hid : id < 256) (h4 : code = 4 → ixM (dS s 2) (nI id) ≠ none) : CA mX15_names [.ref m, .ref d, .int (nI code), .int (nI id)] [ansP m F w bg ([]), rdv d s] (fun x9 K => x9 = none ∧ K = [ansP m F w bg (nmA (dS s 2) code id), rdv d s]) 1 22 0 0 := by
  refine CA.mk 7 (ls := [some (.ref m), some (.ref d), some (.int (nI code)), some (.int (nI id)), none, none, none, none, none, none, none]) rfl rfl (Nat.le_of_ble_eq_true rfl) rfl (fun h hL => ?_)
  have hsh := (okE_sh he).2.2
  have hsl := shO_le hsh
  have hss := shO_sort hsh
  have hul := sortT_len (M := dS s 2)
  have htm := ttM_lt (code := code)
  have htg : ttG (dS s 2) ≤ 131 := by rw [← lvF_G]; exact (lvF_lt _).2
  refine e_iload_n 1 dX15_names_0 rfl rfl ?_
  refine e_iconst 2 (v := (nI 1)) dX15_names_1 rfl (by decide) ?_
  refine e_icmp_ne 9 5 dX15_names_2 rfl rfl (fun c2 => ?_) (fun c2 => ?_)
  · have k2 := j_ne_t (a := code) (b := 1) (by omega) (by omega) c2
    refine e_iload_n 10 dX15_names_9 rfl rfl ?_
    refine e_iconst 11 (v := (nI 2)) dX15_names_10 rfl (by decide) ?_
    refine e_icmp_ne 19 14 dX15_names_11 rfl rfl (fun c11 => ?_) (fun c11 => ?_)
    · have k11 := j_ne_t (a := code) (b := 2) (by omega) (by omega) c11
      refine e_sipush 22 (v := (nI 255)) dX15_names_19 rfl (by decide) ?_
      refine e_top (v' := (nI (ttM code))) (congrArg nI (show 255 = ttM code by rw [ttM, if_neg (by omega), if_neg (by omega)])) ?_
      exact g_X15_names he hok hcode hid h4 hL
    · have k11 := j_ne_f (a := code) (b := 2) (by omega) (by omega) c11
      refine e_bipush 16 (v := (nI 6)) dX15_names_14 rfl (by decide) ?_
      refine e_goto 22 dX15_names_16 rfl ?_
      refine e_top (v' := (nI (ttM code))) (congrArg nI (show 6 = ttM code by rw [ttM, if_neg (by omega), if_pos (by omega)])) ?_
      exact g_X15_names he hok hcode hid h4 hL
  · have k2 := j_ne_f (a := code) (b := 1) (by omega) (by omega) c2
    refine e_iconst 6 (v := (nI 2)) dX15_names_5 rfl (by decide) ?_
    refine e_goto 22 dX15_names_6 rfl ?_
    refine e_top (v' := (nI (ttM code))) (congrArg nI (show 2 = ttM code by rw [ttM, if_pos (by omega)])) ?_
    exact g_X15_names he hok hcode hid h4 hL
