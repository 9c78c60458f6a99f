/-! the law: a case each -/
set_option maxRecDepth 20000 in
set_option maxHeartbeats 2000000 in
theorem c_feed {z : Nat × Nat × (Nat → Int32)} {o m a3 k t th ce sl : Nat} {g : GS} {zh : HD} {f : Nat → Int64} {h : eH} (hL3 : z.2.1 ≤ 3072) (hk6 : 6 * k + 6 ≤ z.2.1) (hv : okV (bnd t) g) (hx : okX g) (ht14 : 14 ≤ t) (ht : t < 600000) (hce : ce + 150 ≤ 601024) (hsl : sl + 12600 ≤ 7293034) (kk : ∀ (g9 : GS) (zh9 : HD) (t9 th9 ce9 sl9 : Nat) (f9 : Nat → Int64) (h9 : eH), okV (bnd t9) g9 → okX g9 → t ≤ t9 → t9 ≤ t + 1001 → ce9 ≤ ce + 150 → sl9 ≤ sl + 12600 → stars [flo o g9 zh9, rfo m g9 th9, pt a3 (.inl (1, 1, .inr (.inl f9)))] h9 → ES (PPL z) FFL mL_law 11 430 601024 7293034 1367 [some (.ref z.1), some (.ref o), some (.ref m), some (.ref a3), some (.int (nI (6 * k))), none, none] [] h9 ce9 sl9) (hL : stars [flo o g zh, rfo m g th, pt a3 (.inl (1, 1, .inr (.inl f)))] h) : ES (PPL z) FFL mL_law 11 430 601024 7293034 172 [some (.ref z.1), some (.ref o), some (.ref m), some (.ref a3), some (.int (nI (6 * k))), none, none] [] h ce sl := by
  obtain ⟨tp, an, D, ⟨fr, wv, hs⟩, ⟨v, RQ, RS, SC, er, mb⟩, ck⟩ := g
  obtain ⟨h1, h2, N1, N2⟩ := zh
  have hW : okW (bnd t) (fr, wv, hs) := hv.1.2.2.1
  have hM : okMS (bnd t) (v, RQ, RS, SC, er, mb) := hv.1.2.2.2.1
  have hv9 : v 9 < 100000000 := Nat.lt_of_le_of_lt hM.1.2.2.2.2.2.1 (show 8 * t < 100000000 by omega)
  have hv1 : v 1 ≤ 2 := hM.1.1
  have hw2 : wv 2 ≤ t := hW.2.1.2.1
  have hw8 : wv 8 ≤ t := hW.2.1.2.2.2.2.2.2.2.1
  have hck : ck ≤ t := hv.1.2.2.2.2.1
  have lhs : hs.length ≤ 64 := hW.2.2.2
  have hb1 : ∀ e ∈ hs, e.1 < 1000000 ∧ e.2 < 1000 := fun e he => by have y := hW.2.2.1 e he; have y1 : e.1 ≤ t + 2000 := y.1; exact ⟨by omega, by omega⟩
  have hb2 : ∀ e ∈ hs, e.1 < 2 ^ 30 ∧ e.2 ≤ 340 := fun e he => by have y := hW.2.2.1 e he; have y1 : e.1 ≤ t + 2000 := y.1; exact ⟨by omega, y.2⟩
  have hL : stars [flo o (tp, an, D, (fr, wv, hs), (v, RQ, RS, SC, er, mb), ck) (h1, h2, N1, N2), rfo m (tp, an, D, (fr, wv, hs), (v, RQ, RS, SC, er, mb), ck) th, pt a3 (.inl (1, 1, .inr (.inl f)))] h := hL
  refine s_aload_n 173 dL_law_172 rfl rfl ?_
  refine s_aload_n 174 dL_law_173 rfl rfl ?_
  refine s_iload 176 dL_law_174 rfl rfl ?_
  refine s_iconst 177 (v := (nI 1)) dL_law_176 rfl (by decide) ?_
  refine s_iadd 178 (v := (nI ((6 * k) + 1))) dL_law_177 rfl (nI_add (6 * k) 1) ?_
  refine l_sld 179 dL_law_178 rfl (show ((6 * k) + 1) < z.2.1 by omega) hL3 ?_
  refine s_aload_n 180 dL_law_179 rfl rfl ?_
  refine s_iload 182 dL_law_180 rfl rfl ?_
  refine s_iconst 183 (v := (nI 2)) dL_law_182 rfl (by decide) ?_
  refine s_iadd 184 (v := (nI ((6 * k) + 2))) dL_law_183 rfl (nI_add (6 * k) 2) ?_
  refine l_sld 185 dL_law_184 rfl (show ((6 * k) + 2) < z.2.1 by omega) hL3 ?_
  refine s_aload_n 186 dL_law_185 rfl rfl ?_
  refine s_iload 188 dL_law_186 rfl rfl ?_
  refine s_iconst 189 (v := (nI 3)) dL_law_188 rfl (by decide) ?_
  refine s_iadd 190 (v := (nI ((6 * k) + 3))) dL_law_189 rfl (nI_add (6 * k) 3) ?_
  refine l_sld 191 dL_law_190 rfl (show ((6 * k) + 3) < z.2.1 by omega) hL3 ?_
  refine s_aload_n 192 dL_law_191 rfl rfl ?_
  refine s_iload 194 dL_law_192 rfl rfl ?_
  refine s_iconst 195 (v := (nI 4)) dL_law_194 rfl (by decide) ?_
  refine s_iadd 196 (v := (nI ((6 * k) + 4))) dL_law_195 rfl (nI_add (6 * k) 4) ?_
  refine l_sld 197 dL_law_196 rfl (show ((6 * k) + 4) < z.2.1 by omega) hL3 ?_
  refine s_aload_n 198 dL_law_197 rfl rfl ?_
  refine s_iload 200 dL_law_198 rfl rfl ?_
  refine s_iconst 201 (v := (nI 5)) dL_law_200 rfl (by decide) ?_
  refine s_iadd 202 (v := (nI ((6 * k) + 5))) dL_law_201 rfl (nI_add (6 * k) 5) ?_
  refine l_sld 203 dL_law_202 rfl (show ((6 * k) + 5) < z.2.1 by omega) hL3 ?_
  refine sp_callV 206 hL [0, 1, 2] 3 rfl (by decide) (L1 := [flo o (tp, an, D, (fr, wv, hs), (v, RQ, RS, SC, er, mb), ck) (h1, h2, N1, N2)]) (L2 := [rfo m (tp, an, D, (fr, wv, hs), (v, RQ, RS, SC, er, mb), ck) th, pt a3 (.inl (1, 1, .inr (.inl f)))]) rfl flo_O 0 rfl dL_law_203 rfl cv_L_24 k_X11_feed rfl rfl (Nat.le_of_ble_eq_true rfl) ⟨by decide, by omega, by omega⟩ (fun r1 L1 h q hL => ?_)
  obtain ⟨rfl, rfl⟩ := q
  have hL : stars [flo o (fdG (tp, an, D, (fr, wv, hs), (v, RQ, RS, SC, er, mb), ck) (z.2.2 (6 * k + 1)) (z.2.2 (6 * k + 2)) (z.2.2 (6 * k + 3)) (z.2.2 (6 * k + 4)) (z.2.2 (6 * k + 5))) (h1, h2, N1, N2), rfo m (tp, an, D, (fr, wv, hs), (v, RQ, RS, SC, er, mb), ck) th, pt a3 (.inl (1, 1, .inr (.inl f)))] h := hL
  refine s_aload_n 207 dL_law_206 rfl rfl ?_
  refine s_aload_n 208 dL_law_207 rfl rfl ?_
  refine s_iload 210 dL_law_208 rfl rfl ?_
  refine s_iconst 211 (v := (nI 1)) dL_law_210 rfl (by decide) ?_
  refine s_iadd 212 (v := (nI ((6 * k) + 1))) dL_law_211 rfl (nI_add (6 * k) 1) ?_
  refine l_sld 213 dL_law_212 rfl (show ((6 * k) + 1) < z.2.1 by omega) hL3 ?_
  refine s_aload_n 214 dL_law_213 rfl rfl ?_
  refine s_iload 216 dL_law_214 rfl rfl ?_
  refine s_iconst 217 (v := (nI 2)) dL_law_216 rfl (by decide) ?_
  refine s_iadd 218 (v := (nI ((6 * k) + 2))) dL_law_217 rfl (nI_add (6 * k) 2) ?_
  refine l_sld 219 dL_law_218 rfl (show ((6 * k) + 2) < z.2.1 by omega) hL3 ?_
  refine s_aload_n 220 dL_law_219 rfl rfl ?_
  refine s_iload 222 dL_law_220 rfl rfl ?_
  refine s_iconst 223 (v := (nI 3)) dL_law_222 rfl (by decide) ?_
  refine s_iadd 224 (v := (nI ((6 * k) + 3))) dL_law_223 rfl (nI_add (6 * k) 3) ?_
  refine l_sld 225 dL_law_224 rfl (show ((6 * k) + 3) < z.2.1 by omega) hL3 ?_
  refine s_aload_n 226 dL_law_225 rfl rfl ?_
  refine s_iload 228 dL_law_226 rfl rfl ?_
  refine s_iconst 229 (v := (nI 4)) dL_law_228 rfl (by decide) ?_
  refine s_iadd 230 (v := (nI ((6 * k) + 4))) dL_law_229 rfl (nI_add (6 * k) 4) ?_
  refine l_sld 231 dL_law_230 rfl (show ((6 * k) + 4) < z.2.1 by omega) hL3 ?_
  refine s_aload_n 232 dL_law_231 rfl rfl ?_
  refine s_iload 234 dL_law_232 rfl rfl ?_
  refine s_iconst 235 (v := (nI 5)) dL_law_234 rfl (by decide) ?_
  refine s_iadd 236 (v := (nI ((6 * k) + 5))) dL_law_235 rfl (nI_add (6 * k) 5) ?_
  refine l_sld 237 dL_law_236 rfl (show ((6 * k) + 5) < z.2.1 by omega) hL3 ?_
  refine sp_callV 240 hL [1, 0, 2] 3 rfl (by decide) (L1 := [rfo m (tp, an, D, (fr, wv, hs), (v, RQ, RS, SC, er, mb), ck) th]) (L2 := [flo o (fdG (tp, an, D, (fr, wv, hs), (v, RQ, RS, SC, er, mb), ck) (z.2.2 (6 * k + 1)) (z.2.2 (6 * k + 2)) (z.2.2 (6 * k + 3)) (z.2.2 (6 * k + 4)) (z.2.2 (6 * k + 5))) (h1, h2, N1, N2), pt a3 (.inl (1, 1, .inr (.inl f)))]) rfl rfo_O 1 rfl dL_law_237 rfl cv_L_28 k_X15_feed rfl rfl (Nat.le_of_ble_eq_true rfl) ⟨by decide, by omega, by omega⟩ (fun r1 L1 h q hL => ?_)
  obtain ⟨rfl, rfl⟩ := q
  have hL : stars [rfo m (fdG (tp, an, D, (fr, wv, hs), (v, RQ, RS, SC, er, mb), ck) (z.2.2 (6 * k + 1)) (z.2.2 (6 * k + 2)) (z.2.2 (6 * k + 3)) (z.2.2 (6 * k + 4)) (z.2.2 (6 * k + 5))) 0, flo o (fdG (tp, an, D, (fr, wv, hs), (v, RQ, RS, SC, er, mb), ck) (z.2.2 (6 * k + 1)) (z.2.2 (6 * k + 2)) (z.2.2 (6 * k + 3)) (z.2.2 (6 * k + 4)) (z.2.2 (6 * k + 5))) (h1, h2, N1, N2), pt a3 (.inl (1, 1, .inr (.inl f)))] h := hL
  have hL : stars [flo o (fdG (tp, an, D, (fr, wv, hs), (v, RQ, RS, SC, er, mb), ck) (z.2.2 (6 * k + 1)) (z.2.2 (6 * k + 2)) (z.2.2 (6 * k + 3)) (z.2.2 (6 * k + 4)) (z.2.2 (6 * k + 5))) (h1, h2, N1, N2), rfo m (fdG (tp, an, D, (fr, wv, hs), (v, RQ, RS, SC, er, mb), ck) (z.2.2 (6 * k + 1)) (z.2.2 (6 * k + 2)) (z.2.2 (6 * k + 3)) (z.2.2 (6 * k + 4)) (z.2.2 (6 * k + 5))) 0, pt a3 (.inl (1, 1, .inr (.inl f)))] h := stars_ixn hL 3 rfl [1, 0, 2] (by decide) rfl
  refine s_icmp_eq 1367 243 dL_law_240 rfl rfl (fun c240 => ?_) (fun c240 => absurd c240 (fun z9 => z9 rfl))
  exact kk _ _ (t + 1) _ _ _ _ h (ov_fd hv) (x_fd hx) (by omega) (by omega) (by omega) (by omega) hL
set_option maxRecDepth 20000 in
set_option maxHeartbeats 2000000 in
theorem c_end {z : Nat × Nat × (Nat → Int32)} {o m a3 k t th ce sl : Nat} {g : GS} {zh : HD} {f : Nat → Int64} {h : eH} (hL3 : z.2.1 ≤ 3072) (hk6 : 6 * k + 6 ≤ z.2.1) (hv : okV (bnd t) g) (hx : okX g) (ht14 : 14 ≤ t) (ht : t < 600000) (hce : ce + 150 ≤ 601024) (hsl : sl + 12600 ≤ 7293034) (kk : ∀ (g9 : GS) (zh9 : HD) (t9 th9 ce9 sl9 : Nat) (f9 : Nat → Int64) (h9 : eH), okV (bnd t9) g9 → okX g9 → t ≤ t9 → t9 ≤ t + 1001 → ce9 ≤ ce + 150 → sl9 ≤ sl + 12600 → stars [flo o g9 zh9, rfo m g9 th9, pt a3 (.inl (1, 1, .inr (.inl f9)))] h9 → ES (PPL z) FFL mL_law 11 430 601024 7293034 1367 [some (.ref z.1), some (.ref o), some (.ref m), some (.ref a3), some (.int (nI (6 * k))), none, none] [] h9 ce9 sl9) (hL : stars [flo o g zh, rfo m g th, pt a3 (.inl (1, 1, .inr (.inl f)))] h) : ES (PPL z) FFL mL_law 11 430 601024 7293034 245 [some (.ref z.1), some (.ref o), some (.ref m), some (.ref a3), some (.int (nI (6 * k))), none, none] [] h ce sl := by
  obtain ⟨tp, an, D, ⟨fr, wv, hs⟩, ⟨v, RQ, RS, SC, er, mb⟩, ck⟩ := g
  obtain ⟨h1, h2, N1, N2⟩ := zh
  have hW : okW (bnd t) (fr, wv, hs) := hv.1.2.2.1
  have hM : okMS (bnd t) (v, RQ, RS, SC, er, mb) := hv.1.2.2.2.1
  have hv9 : v 9 < 100000000 := Nat.lt_of_le_of_lt hM.1.2.2.2.2.2.1 (show 8 * t < 100000000 by omega)
  have hv1 : v 1 ≤ 2 := hM.1.1
  have hw2 : wv 2 ≤ t := hW.2.1.2.1
  have hw8 : wv 8 ≤ t := hW.2.1.2.2.2.2.2.2.2.1
  have hck : ck ≤ t := hv.1.2.2.2.2.1
  have lhs : hs.length ≤ 64 := hW.2.2.2
  have hb1 : ∀ e ∈ hs, e.1 < 1000000 ∧ e.2 < 1000 := fun e he => by have y := hW.2.2.1 e he; have y1 : e.1 ≤ t + 2000 := y.1; exact ⟨by omega, by omega⟩
  have hb2 : ∀ e ∈ hs, e.1 < 2 ^ 30 ∧ e.2 ≤ 340 := fun e he => by have y := hW.2.2.1 e he; have y1 : e.1 ≤ t + 2000 := y.1; exact ⟨by omega, y.2⟩
  have hL : stars [flo o (tp, an, D, (fr, wv, hs), (v, RQ, RS, SC, er, mb), ck) (h1, h2, N1, N2), rfo m (tp, an, D, (fr, wv, hs), (v, RQ, RS, SC, er, mb), ck) th, pt a3 (.inl (1, 1, .inr (.inl f)))] h := hL
  refine s_aload_n 246 dL_law_245 rfl rfl ?_
  refine s_aload_n 247 dL_law_246 rfl rfl ?_
  refine s_iload 249 dL_law_247 rfl rfl ?_
  refine s_iconst 250 (v := (nI 1)) dL_law_249 rfl (by decide) ?_
  refine s_iadd 251 (v := (nI ((6 * k) + 1))) dL_law_250 rfl (nI_add (6 * k) 1) ?_
  refine l_sld 252 dL_law_251 rfl (show ((6 * k) + 1) < z.2.1 by omega) hL3 ?_
  refine sp_callV 255 hL [0, 1, 2] 3 rfl (by decide) (L1 := [flo o (tp, an, D, (fr, wv, hs), (v, RQ, RS, SC, er, mb), ck) (h1, h2, N1, N2)]) (L2 := [rfo m (tp, an, D, (fr, wv, hs), (v, RQ, RS, SC, er, mb), ck) th, pt a3 (.inl (1, 1, .inr (.inl f)))]) rfl flo_O 0 rfl dL_law_252 rfl cv_L_29 k_X11_end rfl rfl (Nat.le_of_ble_eq_true rfl) ⟨by decide, by omega, by omega⟩ (fun r1 L1 h q hL => ?_)
  obtain ⟨rfl, rfl⟩ := q
  have hL : stars [flo o (enG (tp, an, D, (fr, wv, hs), (v, RQ, RS, SC, er, mb), ck) (z.2.2 (6 * k + 1))) (h1, h2, N1, N2), rfo m (tp, an, D, (fr, wv, hs), (v, RQ, RS, SC, er, mb), ck) th, pt a3 (.inl (1, 1, .inr (.inl f)))] h := hL
  refine s_aload_n 256 dL_law_255 rfl rfl ?_
  refine s_aload_n 257 dL_law_256 rfl rfl ?_
  refine s_iload 259 dL_law_257 rfl rfl ?_
  refine s_iconst 260 (v := (nI 1)) dL_law_259 rfl (by decide) ?_
  refine s_iadd 261 (v := (nI ((6 * k) + 1))) dL_law_260 rfl (nI_add (6 * k) 1) ?_
  refine l_sld 262 dL_law_261 rfl (show ((6 * k) + 1) < z.2.1 by omega) hL3 ?_
  refine sp_callV 265 hL [1, 0, 2] 3 rfl (by decide) (L1 := [rfo m (tp, an, D, (fr, wv, hs), (v, RQ, RS, SC, er, mb), ck) th]) (L2 := [flo o (enG (tp, an, D, (fr, wv, hs), (v, RQ, RS, SC, er, mb), ck) (z.2.2 (6 * k + 1))) (h1, h2, N1, N2), pt a3 (.inl (1, 1, .inr (.inl f)))]) rfl rfo_O 1 rfl dL_law_262 rfl cv_L_32 k_X15_end rfl rfl (Nat.le_of_ble_eq_true rfl) ⟨by decide, by omega, by omega⟩ (fun r1 L1 h q hL => ?_)
  obtain ⟨rfl, rfl⟩ := q
  have hL : stars [rfo m (enG (tp, an, D, (fr, wv, hs), (v, RQ, RS, SC, er, mb), ck) (z.2.2 (6 * k + 1))) 0, flo o (enG (tp, an, D, (fr, wv, hs), (v, RQ, RS, SC, er, mb), ck) (z.2.2 (6 * k + 1))) (h1, h2, N1, N2), pt a3 (.inl (1, 1, .inr (.inl f)))] h := hL
  have hL : stars [flo o (enG (tp, an, D, (fr, wv, hs), (v, RQ, RS, SC, er, mb), ck) (z.2.2 (6 * k + 1))) (h1, h2, N1, N2), rfo m (enG (tp, an, D, (fr, wv, hs), (v, RQ, RS, SC, er, mb), ck) (z.2.2 (6 * k + 1))) 0, pt a3 (.inl (1, 1, .inr (.inl f)))] h := stars_ixn hL 3 rfl [1, 0, 2] (by decide) rfl
  refine s_icmp_eq 1367 268 dL_law_265 rfl rfl (fun c265 => ?_) (fun c265 => absurd c265 (fun z9 => z9 rfl))
  exact kk _ _ (t + 1) _ _ _ _ h (ov_en hv) (x_en hx) (by omega) (by omega) (by omega) (by omega) hL
set_option maxRecDepth 20000 in
set_option maxHeartbeats 2000000 in
theorem c_sum {z : Nat × Nat × (Nat → Int32)} {o m a3 k t th ce sl : Nat} {g : GS} {zh : HD} {f : Nat → Int64} {h : eH} (hL3 : z.2.1 ≤ 3072) (hk6 : 6 * k + 6 ≤ z.2.1) (hv : okV (bnd t) g) (hx : okX g) (ht14 : 14 ≤ t) (ht : t < 600000) (hce : ce + 150 ≤ 601024) (hsl : sl + 12600 ≤ 7293034) (kk : ∀ (g9 : GS) (zh9 : HD) (t9 th9 ce9 sl9 : Nat) (f9 : Nat → Int64) (h9 : eH), okV (bnd t9) g9 → okX g9 → t ≤ t9 → t9 ≤ t + 1001 → ce9 ≤ ce + 150 → sl9 ≤ sl + 12600 → stars [flo o g9 zh9, rfo m g9 th9, pt a3 (.inl (1, 1, .inr (.inl f9)))] h9 → ES (PPL z) FFL mL_law 11 430 601024 7293034 1367 [some (.ref z.1), some (.ref o), some (.ref m), some (.ref a3), some (.int (nI (6 * k))), none, none] [] h9 ce9 sl9) (hL : stars [flo o g zh, rfo m g th, pt a3 (.inl (1, 1, .inr (.inl f)))] h) : ES (PPL z) FFL mL_law 11 430 601024 7293034 270 [some (.ref z.1), some (.ref o), some (.ref m), some (.ref a3), some (.int (nI (6 * k))), none, none] [] h ce sl := by
  obtain ⟨tp, an, D, ⟨fr, wv, hs⟩, ⟨v, RQ, RS, SC, er, mb⟩, ck⟩ := g
  obtain ⟨h1, h2, N1, N2⟩ := zh
  have hW : okW (bnd t) (fr, wv, hs) := hv.1.2.2.1
  have hM : okMS (bnd t) (v, RQ, RS, SC, er, mb) := hv.1.2.2.2.1
  have hv9 : v 9 < 100000000 := Nat.lt_of_le_of_lt hM.1.2.2.2.2.2.1 (show 8 * t < 100000000 by omega)
  have hv1 : v 1 ≤ 2 := hM.1.1
  have hw2 : wv 2 ≤ t := hW.2.1.2.1
  have hw8 : wv 8 ≤ t := hW.2.1.2.2.2.2.2.2.2.1
  have hck : ck ≤ t := hv.1.2.2.2.2.1
  have lhs : hs.length ≤ 64 := hW.2.2.2
  have hb1 : ∀ e ∈ hs, e.1 < 1000000 ∧ e.2 < 1000 := fun e he => by have y := hW.2.2.1 e he; have y1 : e.1 ≤ t + 2000 := y.1; exact ⟨by omega, by omega⟩
  have hb2 : ∀ e ∈ hs, e.1 < 2 ^ 30 ∧ e.2 ≤ 340 := fun e he => by have y := hW.2.2.1 e he; have y1 : e.1 ≤ t + 2000 := y.1; exact ⟨by omega, y.2⟩
  have hL : stars [flo o (tp, an, D, (fr, wv, hs), (v, RQ, RS, SC, er, mb), ck) (h1, h2, N1, N2), rfo m (tp, an, D, (fr, wv, hs), (v, RQ, RS, SC, er, mb), ck) th, pt a3 (.inl (1, 1, .inr (.inl f)))] h := hL
  refine s_aload_n 271 dL_law_270 rfl rfl ?_
  refine sp_callV 274 hL [0, 1, 2] 3 rfl (by decide) (L1 := [flo o (tp, an, D, (fr, wv, hs), (v, RQ, RS, SC, er, mb), ck) (h1, h2, N1, N2)]) (L2 := [rfo m (tp, an, D, (fr, wv, hs), (v, RQ, RS, SC, er, mb), ck) th, pt a3 (.inl (1, 1, .inr (.inl f)))]) rfl flo_O 0 rfl dL_law_271 rfl cv_L_33 (k_X11_sum hv.1.1) rfl rfl (Nat.le_of_ble_eq_true rfl) ⟨by decide, by omega, by omega⟩ (fun r1 L1 h q hL => ?_)
  obtain ⟨rfl, rfl⟩ := q
  have hL : stars [flo o (tp, an, D, (fr, wv, hs), (v, RQ, RS, SC, er, mb), ck) (h1, h2, N1, N2), rfo m (tp, an, D, (fr, wv, hs), (v, RQ, RS, SC, er, mb), ck) th, pt a3 (.inl (1, 1, .inr (.inl f)))] h := hL
  refine s_aload_n 275 dL_law_274 rfl rfl ?_
  refine sp_callV 278 hL [1, 0, 2] 3 rfl (by decide) (L1 := [rfo m (tp, an, D, (fr, wv, hs), (v, RQ, RS, SC, er, mb), ck) th]) (L2 := [flo o (tp, an, D, (fr, wv, hs), (v, RQ, RS, SC, er, mb), ck) (h1, h2, N1, N2), pt a3 (.inl (1, 1, .inr (.inl f)))]) rfl rfo_O 1 rfl dL_law_275 rfl cv_L_37 (k_X15_sum hv.1.1) rfl rfl (Nat.le_of_ble_eq_true rfl) ⟨by decide, by omega, by omega⟩ (fun r1 L1 h q hL => ?_)
  obtain ⟨rfl, rfl⟩ := q
  have hL : stars [rfo m (tp, an, D, (fr, wv, hs), (v, RQ, RS, SC, er, mb), ck) 0, flo o (tp, an, D, (fr, wv, hs), (v, RQ, RS, SC, er, mb), ck) (h1, h2, N1, N2), pt a3 (.inl (1, 1, .inr (.inl f)))] h := hL
  have hL : stars [flo o (tp, an, D, (fr, wv, hs), (v, RQ, RS, SC, er, mb), ck) (h1, h2, N1, N2), rfo m (tp, an, D, (fr, wv, hs), (v, RQ, RS, SC, er, mb), ck) 0, pt a3 (.inl (1, 1, .inr (.inl f)))] h := stars_ixn hL 3 rfl [1, 0, 2] (by decide) rfl
  refine s_icmp_eq 1367 281 dL_law_278 rfl rfl (fun c278 => ?_) (fun c278 => absurd c278 (fun z9 => z9 rfl))
  exact kk _ _ (t + 1) _ _ _ _ h (ov_up hv) hx (by omega) (by omega) (by omega) (by omega) hL
set_option maxRecDepth 20000 in
set_option maxHeartbeats 2000000 in
theorem c_device {z : Nat × Nat × (Nat → Int32)} {o m a3 k t th ce sl : Nat} {g : GS} {zh : HD} {f : Nat → Int64} {h : eH} (hL3 : z.2.1 ≤ 3072) (hk6 : 6 * k + 6 ≤ z.2.1) (hv : okV (bnd t) g) (hx : okX g) (ht14 : 14 ≤ t) (ht : t < 600000) (hce : ce + 150 ≤ 601024) (hsl : sl + 12600 ≤ 7293034) (kk : ∀ (g9 : GS) (zh9 : HD) (t9 th9 ce9 sl9 : Nat) (f9 : Nat → Int64) (h9 : eH), okV (bnd t9) g9 → okX g9 → t ≤ t9 → t9 ≤ t + 1001 → ce9 ≤ ce + 150 → sl9 ≤ sl + 12600 → stars [flo o g9 zh9, rfo m g9 th9, pt a3 (.inl (1, 1, .inr (.inl f9)))] h9 → ES (PPL z) FFL mL_law 11 430 601024 7293034 1367 [some (.ref z.1), some (.ref o), some (.ref m), some (.ref a3), some (.int (nI (6 * k))), none, none] [] h9 ce9 sl9) (hL : stars [flo o g zh, rfo m g th, pt a3 (.inl (1, 1, .inr (.inl f)))] h) : ES (PPL z) FFL mL_law 11 430 601024 7293034 283 [some (.ref z.1), some (.ref o), some (.ref m), some (.ref a3), some (.int (nI (6 * k))), none, none] [] h ce sl := by
  obtain ⟨tp, an, D, ⟨fr, wv, hs⟩, ⟨v, RQ, RS, SC, er, mb⟩, ck⟩ := g
  obtain ⟨h1, h2, N1, N2⟩ := zh
  have hW : okW (bnd t) (fr, wv, hs) := hv.1.2.2.1
  have hM : okMS (bnd t) (v, RQ, RS, SC, er, mb) := hv.1.2.2.2.1
  have hv9 : v 9 < 100000000 := Nat.lt_of_le_of_lt hM.1.2.2.2.2.2.1 (show 8 * t < 100000000 by omega)
  have hv1 : v 1 ≤ 2 := hM.1.1
  have hw2 : wv 2 ≤ t := hW.2.1.2.1
  have hw8 : wv 8 ≤ t := hW.2.1.2.2.2.2.2.2.2.1
  have hck : ck ≤ t := hv.1.2.2.2.2.1
  have lhs : hs.length ≤ 64 := hW.2.2.2
  have hb1 : ∀ e ∈ hs, e.1 < 1000000 ∧ e.2 < 1000 := fun e he => by have y := hW.2.2.1 e he; have y1 : e.1 ≤ t + 2000 := y.1; exact ⟨by omega, by omega⟩
  have hb2 : ∀ e ∈ hs, e.1 < 2 ^ 30 ∧ e.2 ≤ 340 := fun e he => by have y := hW.2.2.1 e he; have y1 : e.1 ≤ t + 2000 := y.1; exact ⟨by omega, y.2⟩
  have hL : stars [flo o (tp, an, D, (fr, wv, hs), (v, RQ, RS, SC, er, mb), ck) (h1, h2, N1, N2), rfo m (tp, an, D, (fr, wv, hs), (v, RQ, RS, SC, er, mb), ck) th, pt a3 (.inl (1, 1, .inr (.inl f)))] h := hL
  refine s_aload_n 284 dL_law_283 rfl rfl ?_
  refine s_aload_n 285 dL_law_284 rfl rfl ?_
  refine s_iload 287 dL_law_285 rfl rfl ?_
  refine s_iconst 288 (v := (nI 1)) dL_law_287 rfl (by decide) ?_
  refine s_iadd 289 (v := (nI ((6 * k) + 1))) dL_law_288 rfl (nI_add (6 * k) 1) ?_
  refine l_sld 290 dL_law_289 rfl (show ((6 * k) + 1) < z.2.1 by omega) hL3 ?_
  refine s_aload_n 291 dL_law_290 rfl rfl ?_
  refine s_iload 293 dL_law_291 rfl rfl ?_
  refine s_iconst 294 (v := (nI 2)) dL_law_293 rfl (by decide) ?_
  refine s_iadd 295 (v := (nI ((6 * k) + 2))) dL_law_294 rfl (nI_add (6 * k) 2) ?_
  refine l_sld 296 dL_law_295 rfl (show ((6 * k) + 2) < z.2.1 by omega) hL3 ?_
  refine sp_callV 299 hL [0, 1, 2] 3 rfl (by decide) (L1 := [flo o (tp, an, D, (fr, wv, hs), (v, RQ, RS, SC, er, mb), ck) (h1, h2, N1, N2)]) (L2 := [rfo m (tp, an, D, (fr, wv, hs), (v, RQ, RS, SC, er, mb), ck) th, pt a3 (.inl (1, 1, .inr (.inl f)))]) rfl flo_O 0 rfl dL_law_296 rfl cv_L_38 (k_X11_device (fun s hs => (hv.1.2.1 s hs).1)) rfl rfl (Nat.le_of_ble_eq_true rfl) ⟨by decide, by omega, by omega⟩ (fun r1 L1 h q hL => ?_)
  obtain ⟨rfl, rfl⟩ := q
  have hL : stars [flo o (dvG (tp, an, D, (fr, wv, hs), (v, RQ, RS, SC, er, mb), ck) (z.2.2 (6 * k + 1)) (z.2.2 (6 * k + 2))) (h1, h2, N1, N2), rfo m (tp, an, D, (fr, wv, hs), (v, RQ, RS, SC, er, mb), ck) th, pt a3 (.inl (1, 1, .inr (.inl f)))] h := hL
  refine s_aload_n 300 dL_law_299 rfl rfl ?_
  refine s_aload_n 301 dL_law_300 rfl rfl ?_
  refine s_iload 303 dL_law_301 rfl rfl ?_
  refine s_iconst 304 (v := (nI 1)) dL_law_303 rfl (by decide) ?_
  refine s_iadd 305 (v := (nI ((6 * k) + 1))) dL_law_304 rfl (nI_add (6 * k) 1) ?_
  refine l_sld 306 dL_law_305 rfl (show ((6 * k) + 1) < z.2.1 by omega) hL3 ?_
  refine s_aload_n 307 dL_law_306 rfl rfl ?_
  refine s_iload 309 dL_law_307 rfl rfl ?_
  refine s_iconst 310 (v := (nI 2)) dL_law_309 rfl (by decide) ?_
  refine s_iadd 311 (v := (nI ((6 * k) + 2))) dL_law_310 rfl (nI_add (6 * k) 2) ?_
  refine l_sld 312 dL_law_311 rfl (show ((6 * k) + 2) < z.2.1 by omega) hL3 ?_
  refine sp_callV 315 hL [1, 0, 2] 3 rfl (by decide) (L1 := [rfo m (tp, an, D, (fr, wv, hs), (v, RQ, RS, SC, er, mb), ck) th]) (L2 := [flo o (dvG (tp, an, D, (fr, wv, hs), (v, RQ, RS, SC, er, mb), ck) (z.2.2 (6 * k + 1)) (z.2.2 (6 * k + 2))) (h1, h2, N1, N2), pt a3 (.inl (1, 1, .inr (.inl f)))]) rfl rfo_O 1 rfl dL_law_312 rfl cv_L_42 (k_X15_device (fun s hs => ⟨(hv.1.2.1 s hs).1, hv.2 s hs⟩)) rfl rfl (Nat.le_of_ble_eq_true rfl) ⟨by decide, by omega, by omega⟩ (fun r1 L1 h q hL => ?_)
  obtain ⟨rfl, rfl⟩ := q
  have hL : stars [rfo m (dvG (tp, an, D, (fr, wv, hs), (v, RQ, RS, SC, er, mb), ck) (z.2.2 (6 * k + 1)) (z.2.2 (6 * k + 2))) 0, flo o (dvG (tp, an, D, (fr, wv, hs), (v, RQ, RS, SC, er, mb), ck) (z.2.2 (6 * k + 1)) (z.2.2 (6 * k + 2))) (h1, h2, N1, N2), pt a3 (.inl (1, 1, .inr (.inl f)))] h := hL
  have hL : stars [flo o (dvG (tp, an, D, (fr, wv, hs), (v, RQ, RS, SC, er, mb), ck) (z.2.2 (6 * k + 1)) (z.2.2 (6 * k + 2))) (h1, h2, N1, N2), rfo m (dvG (tp, an, D, (fr, wv, hs), (v, RQ, RS, SC, er, mb), ck) (z.2.2 (6 * k + 1)) (z.2.2 (6 * k + 2))) 0, pt a3 (.inl (1, 1, .inr (.inl f)))] h := stars_ixn hL 3 rfl [1, 0, 2] (by decide) rfl
  refine s_icmp_eq 1367 318 dL_law_315 rfl rfl (fun c315 => ?_) (fun c315 => absurd c315 (fun z9 => z9 rfl))
  exact kk _ _ (t + 1) _ _ _ _ h (ov_dv hv ht14) (x_dv hx) (by omega) (by omega) (by omega) (by omega) hL
set_option maxRecDepth 20000 in
set_option maxHeartbeats 2000000 in
theorem c_bank {z : Nat × Nat × (Nat → Int32)} {o m a3 k t th ce sl : Nat} {g : GS} {zh : HD} {f : Nat → Int64} {h : eH} (hL3 : z.2.1 ≤ 3072) (hk6 : 6 * k + 6 ≤ z.2.1) (hv : okV (bnd t) g) (hx : okX g) (ht14 : 14 ≤ t) (ht : t < 600000) (hce : ce + 150 ≤ 601024) (hsl : sl + 12600 ≤ 7293034) (kk : ∀ (g9 : GS) (zh9 : HD) (t9 th9 ce9 sl9 : Nat) (f9 : Nat → Int64) (h9 : eH), okV (bnd t9) g9 → okX g9 → t ≤ t9 → t9 ≤ t + 1001 → ce9 ≤ ce + 150 → sl9 ≤ sl + 12600 → stars [flo o g9 zh9, rfo m g9 th9, pt a3 (.inl (1, 1, .inr (.inl f9)))] h9 → ES (PPL z) FFL mL_law 11 430 601024 7293034 1367 [some (.ref z.1), some (.ref o), some (.ref m), some (.ref a3), some (.int (nI (6 * k))), none, none] [] h9 ce9 sl9) (hL : stars [flo o g zh, rfo m g th, pt a3 (.inl (1, 1, .inr (.inl f)))] h) : ES (PPL z) FFL mL_law 11 430 601024 7293034 320 [some (.ref z.1), some (.ref o), some (.ref m), some (.ref a3), some (.int (nI (6 * k))), none, none] [] h ce sl := by
  obtain ⟨tp, an, D, ⟨fr, wv, hs⟩, ⟨v, RQ, RS, SC, er, mb⟩, ck⟩ := g
  obtain ⟨h1, h2, N1, N2⟩ := zh
  have hW : okW (bnd t) (fr, wv, hs) := hv.1.2.2.1
  have hM : okMS (bnd t) (v, RQ, RS, SC, er, mb) := hv.1.2.2.2.1
  have hv9 : v 9 < 100000000 := Nat.lt_of_le_of_lt hM.1.2.2.2.2.2.1 (show 8 * t < 100000000 by omega)
  have hv1 : v 1 ≤ 2 := hM.1.1
  have hw2 : wv 2 ≤ t := hW.2.1.2.1
  have hw8 : wv 8 ≤ t := hW.2.1.2.2.2.2.2.2.2.1
  have hck : ck ≤ t := hv.1.2.2.2.2.1
  have lhs : hs.length ≤ 64 := hW.2.2.2
  have hb1 : ∀ e ∈ hs, e.1 < 1000000 ∧ e.2 < 1000 := fun e he => by have y := hW.2.2.1 e he; have y1 : e.1 ≤ t + 2000 := y.1; exact ⟨by omega, by omega⟩
  have hb2 : ∀ e ∈ hs, e.1 < 2 ^ 30 ∧ e.2 ≤ 340 := fun e he => by have y := hW.2.2.1 e he; have y1 : e.1 ≤ t + 2000 := y.1; exact ⟨by omega, y.2⟩
  have hL : stars [flo o (tp, an, D, (fr, wv, hs), (v, RQ, RS, SC, er, mb), ck) (h1, h2, N1, N2), rfo m (tp, an, D, (fr, wv, hs), (v, RQ, RS, SC, er, mb), ck) th, pt a3 (.inl (1, 1, .inr (.inl f)))] h := hL
  refine s_aload_n 321 dL_law_320 rfl rfl ?_
  refine s_aload_n 322 dL_law_321 rfl rfl ?_
  refine s_iload 324 dL_law_322 rfl rfl ?_
  refine s_iconst 325 (v := (nI 1)) dL_law_324 rfl (by decide) ?_
  refine s_iadd 326 (v := (nI ((6 * k) + 1))) dL_law_325 rfl (nI_add (6 * k) 1) ?_
  refine l_sld 327 dL_law_326 rfl (show ((6 * k) + 1) < z.2.1 by omega) hL3 ?_
  refine s_aload_n 328 dL_law_327 rfl rfl ?_
  refine s_iload 330 dL_law_328 rfl rfl ?_
  refine s_iconst 331 (v := (nI 2)) dL_law_330 rfl (by decide) ?_
  refine s_iadd 332 (v := (nI ((6 * k) + 2))) dL_law_331 rfl (nI_add (6 * k) 2) ?_
  refine l_sld 333 dL_law_332 rfl (show ((6 * k) + 2) < z.2.1 by omega) hL3 ?_
  refine s_aload_n 334 dL_law_333 rfl rfl ?_
  refine s_iload 336 dL_law_334 rfl rfl ?_
  refine s_iconst 337 (v := (nI 3)) dL_law_336 rfl (by decide) ?_
  refine s_iadd 338 (v := (nI ((6 * k) + 3))) dL_law_337 rfl (nI_add (6 * k) 3) ?_
  refine l_sld 339 dL_law_338 rfl (show ((6 * k) + 3) < z.2.1 by omega) hL3 ?_
  refine s_aload_n 340 dL_law_339 rfl rfl ?_
  refine s_iload 342 dL_law_340 rfl rfl ?_
  refine s_iconst 343 (v := (nI 4)) dL_law_342 rfl (by decide) ?_
  refine s_iadd 344 (v := (nI ((6 * k) + 4))) dL_law_343 rfl (nI_add (6 * k) 4) ?_
  refine l_sld 345 dL_law_344 rfl (show ((6 * k) + 4) < z.2.1 by omega) hL3 ?_
  refine sp_callV 348 hL [0, 1, 2] 3 rfl (by decide) (L1 := [flo o (tp, an, D, (fr, wv, hs), (v, RQ, RS, SC, er, mb), ck) (h1, h2, N1, N2)]) (L2 := [rfo m (tp, an, D, (fr, wv, hs), (v, RQ, RS, SC, er, mb), ck) th, pt a3 (.inl (1, 1, .inr (.inl f)))]) rfl flo_O 0 rfl dL_law_345 rfl cv_L_43 (k_X11_bank (fun s hs => (hv.1.2.1 s hs).1)) rfl rfl (Nat.le_of_ble_eq_true rfl) ⟨by decide, by omega, by omega⟩ (fun r1 L1 h q hL => ?_)
  obtain ⟨rfl, rfl⟩ := q
  have hL : stars [flo o (bkG (tp, an, D, (fr, wv, hs), (v, RQ, RS, SC, er, mb), ck) (z.2.2 (6 * k + 1)) (z.2.2 (6 * k + 2)) (z.2.2 (6 * k + 3)) (z.2.2 (6 * k + 4))) (h1, h2, N1, N2), rfo m (tp, an, D, (fr, wv, hs), (v, RQ, RS, SC, er, mb), ck) th, pt a3 (.inl (1, 1, .inr (.inl f)))] h := hL
  refine s_aload_n 349 dL_law_348 rfl rfl ?_
  refine s_aload_n 350 dL_law_349 rfl rfl ?_
  refine s_iload 352 dL_law_350 rfl rfl ?_
  refine s_iconst 353 (v := (nI 1)) dL_law_352 rfl (by decide) ?_
  refine s_iadd 354 (v := (nI ((6 * k) + 1))) dL_law_353 rfl (nI_add (6 * k) 1) ?_
  refine l_sld 355 dL_law_354 rfl (show ((6 * k) + 1) < z.2.1 by omega) hL3 ?_
  refine s_aload_n 356 dL_law_355 rfl rfl ?_
  refine s_iload 358 dL_law_356 rfl rfl ?_
  refine s_iconst 359 (v := (nI 2)) dL_law_358 rfl (by decide) ?_
  refine s_iadd 360 (v := (nI ((6 * k) + 2))) dL_law_359 rfl (nI_add (6 * k) 2) ?_
  refine l_sld 361 dL_law_360 rfl (show ((6 * k) + 2) < z.2.1 by omega) hL3 ?_
  refine s_aload_n 362 dL_law_361 rfl rfl ?_
  refine s_iload 364 dL_law_362 rfl rfl ?_
  refine s_iconst 365 (v := (nI 3)) dL_law_364 rfl (by decide) ?_
  refine s_iadd 366 (v := (nI ((6 * k) + 3))) dL_law_365 rfl (nI_add (6 * k) 3) ?_
  refine l_sld 367 dL_law_366 rfl (show ((6 * k) + 3) < z.2.1 by omega) hL3 ?_
  refine s_aload_n 368 dL_law_367 rfl rfl ?_
  refine s_iload 370 dL_law_368 rfl rfl ?_
  refine s_iconst 371 (v := (nI 4)) dL_law_370 rfl (by decide) ?_
  refine s_iadd 372 (v := (nI ((6 * k) + 4))) dL_law_371 rfl (nI_add (6 * k) 4) ?_
  refine l_sld 373 dL_law_372 rfl (show ((6 * k) + 4) < z.2.1 by omega) hL3 ?_
  refine sp_callV 376 hL [1, 0, 2] 3 rfl (by decide) (L1 := [rfo m (tp, an, D, (fr, wv, hs), (v, RQ, RS, SC, er, mb), ck) th]) (L2 := [flo o (bkG (tp, an, D, (fr, wv, hs), (v, RQ, RS, SC, er, mb), ck) (z.2.2 (6 * k + 1)) (z.2.2 (6 * k + 2)) (z.2.2 (6 * k + 3)) (z.2.2 (6 * k + 4))) (h1, h2, N1, N2), pt a3 (.inl (1, 1, .inr (.inl f)))]) rfl rfo_O 1 rfl dL_law_373 rfl cv_L_47 (k_X15_bank (fun s hs => ⟨(hv.1.2.1 s hs).1, hv.2 s hs⟩)) rfl rfl (Nat.le_of_ble_eq_true rfl) ⟨by decide, by omega, by omega⟩ (fun r1 L1 h q hL => ?_)
  obtain ⟨rfl, rfl⟩ := q
  have hL : stars [rfo m (bkG (tp, an, D, (fr, wv, hs), (v, RQ, RS, SC, er, mb), ck) (z.2.2 (6 * k + 1)) (z.2.2 (6 * k + 2)) (z.2.2 (6 * k + 3)) (z.2.2 (6 * k + 4))) 0, flo o (bkG (tp, an, D, (fr, wv, hs), (v, RQ, RS, SC, er, mb), ck) (z.2.2 (6 * k + 1)) (z.2.2 (6 * k + 2)) (z.2.2 (6 * k + 3)) (z.2.2 (6 * k + 4))) (h1, h2, N1, N2), pt a3 (.inl (1, 1, .inr (.inl f)))] h := hL
  have hL : stars [flo o (bkG (tp, an, D, (fr, wv, hs), (v, RQ, RS, SC, er, mb), ck) (z.2.2 (6 * k + 1)) (z.2.2 (6 * k + 2)) (z.2.2 (6 * k + 3)) (z.2.2 (6 * k + 4))) (h1, h2, N1, N2), rfo m (bkG (tp, an, D, (fr, wv, hs), (v, RQ, RS, SC, er, mb), ck) (z.2.2 (6 * k + 1)) (z.2.2 (6 * k + 2)) (z.2.2 (6 * k + 3)) (z.2.2 (6 * k + 4))) 0, pt a3 (.inl (1, 1, .inr (.inl f)))] h := stars_ixn hL 3 rfl [1, 0, 2] (by decide) rfl
  refine s_icmp_eq 1367 379 dL_law_376 rfl rfl (fun c376 => ?_) (fun c376 => absurd c376 (fun z9 => z9 rfl))
  exact kk _ _ (t + 1) _ _ _ _ h (ov_bk hv) (x_bk hx) (by omega) (by omega) (by omega) (by omega) hL
set_option maxRecDepth 20000 in
set_option maxHeartbeats 2000000 in
theorem c_put {z : Nat × Nat × (Nat → Int32)} {o m a3 k t th ce sl : Nat} {g : GS} {zh : HD} {f : Nat → Int64} {h : eH} (hL3 : z.2.1 ≤ 3072) (hk6 : 6 * k + 6 ≤ z.2.1) (hv : okV (bnd t) g) (hx : okX g) (ht14 : 14 ≤ t) (ht : t < 600000) (hce : ce + 150 ≤ 601024) (hsl : sl + 12600 ≤ 7293034) (kk : ∀ (g9 : GS) (zh9 : HD) (t9 th9 ce9 sl9 : Nat) (f9 : Nat → Int64) (h9 : eH), okV (bnd t9) g9 → okX g9 → t ≤ t9 → t9 ≤ t + 1001 → ce9 ≤ ce + 150 → sl9 ≤ sl + 12600 → stars [flo o g9 zh9, rfo m g9 th9, pt a3 (.inl (1, 1, .inr (.inl f9)))] h9 → ES (PPL z) FFL mL_law 11 430 601024 7293034 1367 [some (.ref z.1), some (.ref o), some (.ref m), some (.ref a3), some (.int (nI (6 * k))), none, none] [] h9 ce9 sl9) (hL : stars [flo o g zh, rfo m g th, pt a3 (.inl (1, 1, .inr (.inl f)))] h) : ES (PPL z) FFL mL_law 11 430 601024 7293034 381 [some (.ref z.1), some (.ref o), some (.ref m), some (.ref a3), some (.int (nI (6 * k))), none, none] [] h ce sl := by
  obtain ⟨tp, an, D, ⟨fr, wv, hs⟩, ⟨v, RQ, RS, SC, er, mb⟩, ck⟩ := g
  obtain ⟨h1, h2, N1, N2⟩ := zh
  have hW : okW (bnd t) (fr, wv, hs) := hv.1.2.2.1
  have hM : okMS (bnd t) (v, RQ, RS, SC, er, mb) := hv.1.2.2.2.1
  have hv9 : v 9 < 100000000 := Nat.lt_of_le_of_lt hM.1.2.2.2.2.2.1 (show 8 * t < 100000000 by omega)
  have hv1 : v 1 ≤ 2 := hM.1.1
  have hw2 : wv 2 ≤ t := hW.2.1.2.1
  have hw8 : wv 8 ≤ t := hW.2.1.2.2.2.2.2.2.2.1
  have hck : ck ≤ t := hv.1.2.2.2.2.1
  have lhs : hs.length ≤ 64 := hW.2.2.2
  have hb1 : ∀ e ∈ hs, e.1 < 1000000 ∧ e.2 < 1000 := fun e he => by have y := hW.2.2.1 e he; have y1 : e.1 ≤ t + 2000 := y.1; exact ⟨by omega, by omega⟩
  have hb2 : ∀ e ∈ hs, e.1 < 2 ^ 30 ∧ e.2 ≤ 340 := fun e he => by have y := hW.2.2.1 e he; have y1 : e.1 ≤ t + 2000 := y.1; exact ⟨by omega, y.2⟩
  have hL : stars [flo o (tp, an, D, (fr, wv, hs), (v, RQ, RS, SC, er, mb), ck) (h1, h2, N1, N2), rfo m (tp, an, D, (fr, wv, hs), (v, RQ, RS, SC, er, mb), ck) th, pt a3 (.inl (1, 1, .inr (.inl f)))] h := hL
  refine s_aload_n 382 dL_law_381 rfl rfl ?_
  refine s_aload_n 383 dL_law_382 rfl rfl ?_
  refine s_iload 385 dL_law_383 rfl rfl ?_
  refine s_iconst 386 (v := (nI 1)) dL_law_385 rfl (by decide) ?_
  refine s_iadd 387 (v := (nI ((6 * k) + 1))) dL_law_386 rfl (nI_add (6 * k) 1) ?_
  refine l_sld 388 dL_law_387 rfl (show ((6 * k) + 1) < z.2.1 by omega) hL3 ?_
  refine s_aload_n 389 dL_law_388 rfl rfl ?_
  refine s_iload 391 dL_law_389 rfl rfl ?_
  refine s_iconst 392 (v := (nI 2)) dL_law_391 rfl (by decide) ?_
  refine s_iadd 393 (v := (nI ((6 * k) + 2))) dL_law_392 rfl (nI_add (6 * k) 2) ?_
  refine l_sld 394 dL_law_393 rfl (show ((6 * k) + 2) < z.2.1 by omega) hL3 ?_
  refine s_aload_n 395 dL_law_394 rfl rfl ?_
  refine s_iload 397 dL_law_395 rfl rfl ?_
  refine s_iconst 398 (v := (nI 3)) dL_law_397 rfl (by decide) ?_
  refine s_iadd 399 (v := (nI ((6 * k) + 3))) dL_law_398 rfl (nI_add (6 * k) 3) ?_
  refine l_sld 400 dL_law_399 rfl (show ((6 * k) + 3) < z.2.1 by omega) hL3 ?_
  refine s_aload_n 401 dL_law_400 rfl rfl ?_
  refine s_iload 403 dL_law_401 rfl rfl ?_
  refine s_iconst 404 (v := (nI 4)) dL_law_403 rfl (by decide) ?_
  refine s_iadd 405 (v := (nI ((6 * k) + 4))) dL_law_404 rfl (nI_add (6 * k) 4) ?_
  refine l_sld 406 dL_law_405 rfl (show ((6 * k) + 4) < z.2.1 by omega) hL3 ?_
  refine sp_callV 409 hL [0, 1, 2] 3 rfl (by decide) (L1 := [flo o (tp, an, D, (fr, wv, hs), (v, RQ, RS, SC, er, mb), ck) (h1, h2, N1, N2)]) (L2 := [rfo m (tp, an, D, (fr, wv, hs), (v, RQ, RS, SC, er, mb), ck) th, pt a3 (.inl (1, 1, .inr (.inl f)))]) rfl flo_O 0 rfl dL_law_406 rfl cv_L_48 (k_X11_put (fun s hs => (hv.1.2.1 s hs).1)) rfl rfl (Nat.le_of_ble_eq_true rfl) ⟨by decide, by omega, by omega⟩ (fun r1 L1 h q hL => ?_)
  obtain ⟨rfl, rfl⟩ := q
  have hL : stars [flo o (ptG (tp, an, D, (fr, wv, hs), (v, RQ, RS, SC, er, mb), ck) (z.2.2 (6 * k + 1)) (z.2.2 (6 * k + 2)) (z.2.2 (6 * k + 3)) (z.2.2 (6 * k + 4))) (h1, h2, N1, N2), rfo m (tp, an, D, (fr, wv, hs), (v, RQ, RS, SC, er, mb), ck) th, pt a3 (.inl (1, 1, .inr (.inl f)))] h := hL
  refine s_aload_n 410 dL_law_409 rfl rfl ?_
  refine s_aload_n 411 dL_law_410 rfl rfl ?_
  refine s_iload 413 dL_law_411 rfl rfl ?_
  refine s_iconst 414 (v := (nI 1)) dL_law_413 rfl (by decide) ?_
  refine s_iadd 415 (v := (nI ((6 * k) + 1))) dL_law_414 rfl (nI_add (6 * k) 1) ?_
  refine l_sld 416 dL_law_415 rfl (show ((6 * k) + 1) < z.2.1 by omega) hL3 ?_
  refine s_aload_n 417 dL_law_416 rfl rfl ?_
  refine s_iload 419 dL_law_417 rfl rfl ?_
  refine s_iconst 420 (v := (nI 2)) dL_law_419 rfl (by decide) ?_
  refine s_iadd 421 (v := (nI ((6 * k) + 2))) dL_law_420 rfl (nI_add (6 * k) 2) ?_
  refine l_sld 422 dL_law_421 rfl (show ((6 * k) + 2) < z.2.1 by omega) hL3 ?_
  refine s_aload_n 423 dL_law_422 rfl rfl ?_
  refine s_iload 425 dL_law_423 rfl rfl ?_
  refine s_iconst 426 (v := (nI 3)) dL_law_425 rfl (by decide) ?_
  refine s_iadd 427 (v := (nI ((6 * k) + 3))) dL_law_426 rfl (nI_add (6 * k) 3) ?_
  refine l_sld 428 dL_law_427 rfl (show ((6 * k) + 3) < z.2.1 by omega) hL3 ?_
  refine s_aload_n 429 dL_law_428 rfl rfl ?_
  refine s_iload 431 dL_law_429 rfl rfl ?_
  refine s_iconst 432 (v := (nI 4)) dL_law_431 rfl (by decide) ?_
  refine s_iadd 433 (v := (nI ((6 * k) + 4))) dL_law_432 rfl (nI_add (6 * k) 4) ?_
  refine l_sld 434 dL_law_433 rfl (show ((6 * k) + 4) < z.2.1 by omega) hL3 ?_
  refine sp_callV 437 hL [1, 0, 2] 3 rfl (by decide) (L1 := [rfo m (tp, an, D, (fr, wv, hs), (v, RQ, RS, SC, er, mb), ck) th]) (L2 := [flo o (ptG (tp, an, D, (fr, wv, hs), (v, RQ, RS, SC, er, mb), ck) (z.2.2 (6 * k + 1)) (z.2.2 (6 * k + 2)) (z.2.2 (6 * k + 3)) (z.2.2 (6 * k + 4))) (h1, h2, N1, N2), pt a3 (.inl (1, 1, .inr (.inl f)))]) rfl rfo_O 1 rfl dL_law_434 rfl cv_L_51 (k_X15_put (fun s hs => ⟨(hv.1.2.1 s hs).1, hv.2 s hs⟩)) rfl rfl (Nat.le_of_ble_eq_true rfl) ⟨by decide, by omega, by omega⟩ (fun r1 L1 h q hL => ?_)
  obtain ⟨rfl, rfl⟩ := q
  have hL : stars [rfo m (ptG (tp, an, D, (fr, wv, hs), (v, RQ, RS, SC, er, mb), ck) (z.2.2 (6 * k + 1)) (z.2.2 (6 * k + 2)) (z.2.2 (6 * k + 3)) (z.2.2 (6 * k + 4))) 0, flo o (ptG (tp, an, D, (fr, wv, hs), (v, RQ, RS, SC, er, mb), ck) (z.2.2 (6 * k + 1)) (z.2.2 (6 * k + 2)) (z.2.2 (6 * k + 3)) (z.2.2 (6 * k + 4))) (h1, h2, N1, N2), pt a3 (.inl (1, 1, .inr (.inl f)))] h := hL
  have hL : stars [flo o (ptG (tp, an, D, (fr, wv, hs), (v, RQ, RS, SC, er, mb), ck) (z.2.2 (6 * k + 1)) (z.2.2 (6 * k + 2)) (z.2.2 (6 * k + 3)) (z.2.2 (6 * k + 4))) (h1, h2, N1, N2), rfo m (ptG (tp, an, D, (fr, wv, hs), (v, RQ, RS, SC, er, mb), ck) (z.2.2 (6 * k + 1)) (z.2.2 (6 * k + 2)) (z.2.2 (6 * k + 3)) (z.2.2 (6 * k + 4))) 0, pt a3 (.inl (1, 1, .inr (.inl f)))] h := stars_ixn hL 3 rfl [1, 0, 2] (by decide) rfl
  refine s_icmp_eq 1367 440 dL_law_437 rfl rfl (fun c437 => ?_) (fun c437 => absurd c437 (fun z9 => z9 rfl))
  exact kk _ _ (t + 1) _ _ _ _ h (ov_pt hv) (x_pt hx) (by omega) (by omega) (by omega) (by omega) hL
set_option maxRecDepth 20000 in
set_option maxHeartbeats 2000000 in
theorem c_get {z : Nat × Nat × (Nat → Int32)} {o m a3 k t th ce sl : Nat} {g : GS} {zh : HD} {f : Nat → Int64} {h : eH} (hL3 : z.2.1 ≤ 3072) (hk6 : 6 * k + 6 ≤ z.2.1) (hv : okV (bnd t) g) (hx : okX g) (ht14 : 14 ≤ t) (ht : t < 600000) (hce : ce + 150 ≤ 601024) (hsl : sl + 12600 ≤ 7293034) (kk : ∀ (g9 : GS) (zh9 : HD) (t9 th9 ce9 sl9 : Nat) (f9 : Nat → Int64) (h9 : eH), okV (bnd t9) g9 → okX g9 → t ≤ t9 → t9 ≤ t + 1001 → ce9 ≤ ce + 150 → sl9 ≤ sl + 12600 → stars [flo o g9 zh9, rfo m g9 th9, pt a3 (.inl (1, 1, .inr (.inl f9)))] h9 → ES (PPL z) FFL mL_law 11 430 601024 7293034 1367 [some (.ref z.1), some (.ref o), some (.ref m), some (.ref a3), some (.int (nI (6 * k))), none, none] [] h9 ce9 sl9) (hL : stars [flo o g zh, rfo m g th, pt a3 (.inl (1, 1, .inr (.inl f)))] h) : ES (PPL z) FFL mL_law 11 430 601024 7293034 442 [some (.ref z.1), some (.ref o), some (.ref m), some (.ref a3), some (.int (nI (6 * k))), none, none] [] h ce sl := by
  obtain ⟨tp, an, D, ⟨fr, wv, hs⟩, ⟨v, RQ, RS, SC, er, mb⟩, ck⟩ := g
  obtain ⟨h1, h2, N1, N2⟩ := zh
  have hW : okW (bnd t) (fr, wv, hs) := hv.1.2.2.1
  have hM : okMS (bnd t) (v, RQ, RS, SC, er, mb) := hv.1.2.2.2.1
  have hv9 : v 9 < 100000000 := Nat.lt_of_le_of_lt hM.1.2.2.2.2.2.1 (show 8 * t < 100000000 by omega)
  have hv1 : v 1 ≤ 2 := hM.1.1
  have hw2 : wv 2 ≤ t := hW.2.1.2.1
  have hw8 : wv 8 ≤ t := hW.2.1.2.2.2.2.2.2.2.1
  have hck : ck ≤ t := hv.1.2.2.2.2.1
  have lhs : hs.length ≤ 64 := hW.2.2.2
  have hb1 : ∀ e ∈ hs, e.1 < 1000000 ∧ e.2 < 1000 := fun e he => by have y := hW.2.2.1 e he; have y1 : e.1 ≤ t + 2000 := y.1; exact ⟨by omega, by omega⟩
  have hb2 : ∀ e ∈ hs, e.1 < 2 ^ 30 ∧ e.2 ≤ 340 := fun e he => by have y := hW.2.2.1 e he; have y1 : e.1 ≤ t + 2000 := y.1; exact ⟨by omega, y.2⟩
  have hL : stars [flo o (tp, an, D, (fr, wv, hs), (v, RQ, RS, SC, er, mb), ck) (h1, h2, N1, N2), rfo m (tp, an, D, (fr, wv, hs), (v, RQ, RS, SC, er, mb), ck) th, pt a3 (.inl (1, 1, .inr (.inl f)))] h := hL
  refine s_aload_n 443 dL_law_442 rfl rfl ?_
  refine s_aload_n 444 dL_law_443 rfl rfl ?_
  refine s_iload 446 dL_law_444 rfl rfl ?_
  refine s_iconst 447 (v := (nI 1)) dL_law_446 rfl (by decide) ?_
  refine s_iadd 448 (v := (nI ((6 * k) + 1))) dL_law_447 rfl (nI_add (6 * k) 1) ?_
  refine l_sld 449 dL_law_448 rfl (show ((6 * k) + 1) < z.2.1 by omega) hL3 ?_
  refine s_aload_n 450 dL_law_449 rfl rfl ?_
  refine s_iload 452 dL_law_450 rfl rfl ?_
  refine s_iconst 453 (v := (nI 2)) dL_law_452 rfl (by decide) ?_
  refine s_iadd 454 (v := (nI ((6 * k) + 2))) dL_law_453 rfl (nI_add (6 * k) 2) ?_
  refine l_sld 455 dL_law_454 rfl (show ((6 * k) + 2) < z.2.1 by omega) hL3 ?_
  refine s_aload_n 456 dL_law_455 rfl rfl ?_
  refine s_iload 458 dL_law_456 rfl rfl ?_
  refine s_iconst 459 (v := (nI 3)) dL_law_458 rfl (by decide) ?_
  refine s_iadd 460 (v := (nI ((6 * k) + 3))) dL_law_459 rfl (nI_add (6 * k) 3) ?_
  refine l_sld 461 dL_law_460 rfl (show ((6 * k) + 3) < z.2.1 by omega) hL3 ?_
  refine sp_callV 464 hL [0, 1, 2] 3 rfl (by decide) (L1 := [flo o (tp, an, D, (fr, wv, hs), (v, RQ, RS, SC, er, mb), ck) (h1, h2, N1, N2)]) (L2 := [rfo m (tp, an, D, (fr, wv, hs), (v, RQ, RS, SC, er, mb), ck) th, pt a3 (.inl (1, 1, .inr (.inl f)))]) rfl flo_O 0 rfl dL_law_461 rfl cv_L_52 (k_X11_get (fun s hs => (hv.1.2.1 s hs).1)) rfl rfl (Nat.le_of_ble_eq_true rfl) ⟨by decide, by omega, by omega⟩ (fun r1 L1 h q hL => ?_)
  obtain ⟨rfl, rfl⟩ := q
  have hL : stars [flo o (tp, an, D, (fr, wv, hs), (v, RQ, RS, SC, er, mb), ck) (h1, h2, N1, N2), rfo m (tp, an, D, (fr, wv, hs), (v, RQ, RS, SC, er, mb), ck) th, pt a3 (.inl (1, 1, .inr (.inl f)))] h := hL
  refine s_aload_n 465 dL_law_464 rfl rfl ?_
  refine s_aload_n 466 dL_law_465 rfl rfl ?_
  refine s_iload 468 dL_law_466 rfl rfl ?_
  refine s_iconst 469 (v := (nI 1)) dL_law_468 rfl (by decide) ?_
  refine s_iadd 470 (v := (nI ((6 * k) + 1))) dL_law_469 rfl (nI_add (6 * k) 1) ?_
  refine l_sld 471 dL_law_470 rfl (show ((6 * k) + 1) < z.2.1 by omega) hL3 ?_
  refine s_aload_n 472 dL_law_471 rfl rfl ?_
  refine s_iload 474 dL_law_472 rfl rfl ?_
  refine s_iconst 475 (v := (nI 2)) dL_law_474 rfl (by decide) ?_
  refine s_iadd 476 (v := (nI ((6 * k) + 2))) dL_law_475 rfl (nI_add (6 * k) 2) ?_
  refine l_sld 477 dL_law_476 rfl (show ((6 * k) + 2) < z.2.1 by omega) hL3 ?_
  refine s_aload_n 478 dL_law_477 rfl rfl ?_
  refine s_iload 480 dL_law_478 rfl rfl ?_
  refine s_iconst 481 (v := (nI 3)) dL_law_480 rfl (by decide) ?_
  refine s_iadd 482 (v := (nI ((6 * k) + 3))) dL_law_481 rfl (nI_add (6 * k) 3) ?_
  refine l_sld 483 dL_law_482 rfl (show ((6 * k) + 3) < z.2.1 by omega) hL3 ?_
  refine sp_callV 486 hL [1, 0, 2] 3 rfl (by decide) (L1 := [rfo m (tp, an, D, (fr, wv, hs), (v, RQ, RS, SC, er, mb), ck) th]) (L2 := [flo o (tp, an, D, (fr, wv, hs), (v, RQ, RS, SC, er, mb), ck) (h1, h2, N1, N2), pt a3 (.inl (1, 1, .inr (.inl f)))]) rfl rfo_O 1 rfl dL_law_483 rfl cv_L_56 (k_X15_get (fun s hs => ⟨(hv.1.2.1 s hs).1, hv.2 s hs⟩)) rfl rfl (Nat.le_of_ble_eq_true rfl) ⟨by decide, by omega, by omega⟩ (fun r1 L1 h q hL => ?_)
  obtain ⟨rfl, rfl⟩ := q
  have hL : stars [rfo m (tp, an, D, (fr, wv, hs), (v, RQ, RS, SC, er, mb), ck) 0, flo o (tp, an, D, (fr, wv, hs), (v, RQ, RS, SC, er, mb), ck) (h1, h2, N1, N2), pt a3 (.inl (1, 1, .inr (.inl f)))] h := hL
  have hL : stars [flo o (tp, an, D, (fr, wv, hs), (v, RQ, RS, SC, er, mb), ck) (h1, h2, N1, N2), rfo m (tp, an, D, (fr, wv, hs), (v, RQ, RS, SC, er, mb), ck) 0, pt a3 (.inl (1, 1, .inr (.inl f)))] h := stars_ixn hL 3 rfl [1, 0, 2] (by decide) rfl
  refine s_icmp_eq 1367 489 dL_law_486 rfl rfl (fun c486 => ?_) (fun c486 => absurd c486 (fun z9 => z9 rfl))
  exact kk _ _ (t + 1) _ _ _ _ h (ov_up hv) hx (by omega) (by omega) (by omega) (by omega) hL
set_option maxRecDepth 20000 in
set_option maxHeartbeats 2000000 in
theorem c_limit {z : Nat × Nat × (Nat → Int32)} {o m a3 k t th ce sl : Nat} {g : GS} {zh : HD} {f : Nat → Int64} {h : eH} (hL3 : z.2.1 ≤ 3072) (hk6 : 6 * k + 6 ≤ z.2.1) (hv : okV (bnd t) g) (hx : okX g) (ht14 : 14 ≤ t) (ht : t < 600000) (hce : ce + 150 ≤ 601024) (hsl : sl + 12600 ≤ 7293034) (kk : ∀ (g9 : GS) (zh9 : HD) (t9 th9 ce9 sl9 : Nat) (f9 : Nat → Int64) (h9 : eH), okV (bnd t9) g9 → okX g9 → t ≤ t9 → t9 ≤ t + 1001 → ce9 ≤ ce + 150 → sl9 ≤ sl + 12600 → stars [flo o g9 zh9, rfo m g9 th9, pt a3 (.inl (1, 1, .inr (.inl f9)))] h9 → ES (PPL z) FFL mL_law 11 430 601024 7293034 1367 [some (.ref z.1), some (.ref o), some (.ref m), some (.ref a3), some (.int (nI (6 * k))), none, none] [] h9 ce9 sl9) (hL : stars [flo o g zh, rfo m g th, pt a3 (.inl (1, 1, .inr (.inl f)))] h) : ES (PPL z) FFL mL_law 11 430 601024 7293034 491 [some (.ref z.1), some (.ref o), some (.ref m), some (.ref a3), some (.int (nI (6 * k))), none, none] [] h ce sl := by
  obtain ⟨tp, an, D, ⟨fr, wv, hs⟩, ⟨v, RQ, RS, SC, er, mb⟩, ck⟩ := g
  obtain ⟨h1, h2, N1, N2⟩ := zh
  have hW : okW (bnd t) (fr, wv, hs) := hv.1.2.2.1
  have hM : okMS (bnd t) (v, RQ, RS, SC, er, mb) := hv.1.2.2.2.1
  have hv9 : v 9 < 100000000 := Nat.lt_of_le_of_lt hM.1.2.2.2.2.2.1 (show 8 * t < 100000000 by omega)
  have hv1 : v 1 ≤ 2 := hM.1.1
  have hw2 : wv 2 ≤ t := hW.2.1.2.1
  have hw8 : wv 8 ≤ t := hW.2.1.2.2.2.2.2.2.2.1
  have hck : ck ≤ t := hv.1.2.2.2.2.1
  have lhs : hs.length ≤ 64 := hW.2.2.2
  have hb1 : ∀ e ∈ hs, e.1 < 1000000 ∧ e.2 < 1000 := fun e he => by have y := hW.2.2.1 e he; have y1 : e.1 ≤ t + 2000 := y.1; exact ⟨by omega, by omega⟩
  have hb2 : ∀ e ∈ hs, e.1 < 2 ^ 30 ∧ e.2 ≤ 340 := fun e he => by have y := hW.2.2.1 e he; have y1 : e.1 ≤ t + 2000 := y.1; exact ⟨by omega, y.2⟩
  have hL : stars [flo o (tp, an, D, (fr, wv, hs), (v, RQ, RS, SC, er, mb), ck) (h1, h2, N1, N2), rfo m (tp, an, D, (fr, wv, hs), (v, RQ, RS, SC, er, mb), ck) th, pt a3 (.inl (1, 1, .inr (.inl f)))] h := hL
  refine s_aload_n 492 dL_law_491 rfl rfl ?_
  refine s_aload_n 493 dL_law_492 rfl rfl ?_
  refine s_iload 495 dL_law_493 rfl rfl ?_
  refine s_iconst 496 (v := (nI 1)) dL_law_495 rfl (by decide) ?_
  refine s_iadd 497 (v := (nI ((6 * k) + 1))) dL_law_496 rfl (nI_add (6 * k) 1) ?_
  refine l_sld 498 dL_law_497 rfl (show ((6 * k) + 1) < z.2.1 by omega) hL3 ?_
  refine s_aload_n 499 dL_law_498 rfl rfl ?_
  refine s_iload 501 dL_law_499 rfl rfl ?_
  refine s_iconst 502 (v := (nI 2)) dL_law_501 rfl (by decide) ?_
  refine s_iadd 503 (v := (nI ((6 * k) + 2))) dL_law_502 rfl (nI_add (6 * k) 2) ?_
  refine l_sld 504 dL_law_503 rfl (show ((6 * k) + 2) < z.2.1 by omega) hL3 ?_
  refine s_aload_n 505 dL_law_504 rfl rfl ?_
  refine s_iload 507 dL_law_505 rfl rfl ?_
  refine s_iconst 508 (v := (nI 3)) dL_law_507 rfl (by decide) ?_
  refine s_iadd 509 (v := (nI ((6 * k) + 3))) dL_law_508 rfl (nI_add (6 * k) 3) ?_
  refine l_sld 510 dL_law_509 rfl (show ((6 * k) + 3) < z.2.1 by omega) hL3 ?_
  refine s_aload_n 511 dL_law_510 rfl rfl ?_
  refine s_iload 513 dL_law_511 rfl rfl ?_
  refine s_iconst 514 (v := (nI 4)) dL_law_513 rfl (by decide) ?_
  refine s_iadd 515 (v := (nI ((6 * k) + 4))) dL_law_514 rfl (nI_add (6 * k) 4) ?_
  refine l_sld 516 dL_law_515 rfl (show ((6 * k) + 4) < z.2.1 by omega) hL3 ?_
  refine s_aload_n 517 dL_law_516 rfl rfl ?_
  refine s_iload 519 dL_law_517 rfl rfl ?_
  refine s_iconst 520 (v := (nI 5)) dL_law_519 rfl (by decide) ?_
  refine s_iadd 521 (v := (nI ((6 * k) + 5))) dL_law_520 rfl (nI_add (6 * k) 5) ?_
  refine l_sld 522 dL_law_521 rfl (show ((6 * k) + 5) < z.2.1 by omega) hL3 ?_
  refine sp_callV 525 hL [0, 1, 2] 3 rfl (by decide) (L1 := [flo o (tp, an, D, (fr, wv, hs), (v, RQ, RS, SC, er, mb), ck) (h1, h2, N1, N2)]) (L2 := [rfo m (tp, an, D, (fr, wv, hs), (v, RQ, RS, SC, er, mb), ck) th, pt a3 (.inl (1, 1, .inr (.inl f)))]) rfl flo_O 0 rfl dL_law_522 rfl cv_L_57 (k_X11_limit (fun s hs => (hv.1.2.1 s hs).1)) rfl rfl (Nat.le_of_ble_eq_true rfl) ⟨by decide, by omega, by omega⟩ (fun r1 L1 h q hL => ?_)
  obtain ⟨rfl, rfl⟩ := q
  have hL : stars [flo o (lmG (tp, an, D, (fr, wv, hs), (v, RQ, RS, SC, er, mb), ck) (z.2.2 (6 * k + 1)) (z.2.2 (6 * k + 2)) (z.2.2 (6 * k + 3)) (z.2.2 (6 * k + 4)) (z.2.2 (6 * k + 5))) (h1, h2, N1, N2), rfo m (tp, an, D, (fr, wv, hs), (v, RQ, RS, SC, er, mb), ck) th, pt a3 (.inl (1, 1, .inr (.inl f)))] h := hL
  refine s_aload_n 526 dL_law_525 rfl rfl ?_
  refine s_aload_n 527 dL_law_526 rfl rfl ?_
  refine s_iload 529 dL_law_527 rfl rfl ?_
  refine s_iconst 530 (v := (nI 1)) dL_law_529 rfl (by decide) ?_
  refine s_iadd 531 (v := (nI ((6 * k) + 1))) dL_law_530 rfl (nI_add (6 * k) 1) ?_
  refine l_sld 532 dL_law_531 rfl (show ((6 * k) + 1) < z.2.1 by omega) hL3 ?_
  refine s_aload_n 533 dL_law_532 rfl rfl ?_
  refine s_iload 535 dL_law_533 rfl rfl ?_
  refine s_iconst 536 (v := (nI 2)) dL_law_535 rfl (by decide) ?_
  refine s_iadd 537 (v := (nI ((6 * k) + 2))) dL_law_536 rfl (nI_add (6 * k) 2) ?_
  refine l_sld 538 dL_law_537 rfl (show ((6 * k) + 2) < z.2.1 by omega) hL3 ?_
  refine s_aload_n 539 dL_law_538 rfl rfl ?_
  refine s_iload 541 dL_law_539 rfl rfl ?_
  refine s_iconst 542 (v := (nI 3)) dL_law_541 rfl (by decide) ?_
  refine s_iadd 543 (v := (nI ((6 * k) + 3))) dL_law_542 rfl (nI_add (6 * k) 3) ?_
  refine l_sld 544 dL_law_543 rfl (show ((6 * k) + 3) < z.2.1 by omega) hL3 ?_
  refine s_aload_n 545 dL_law_544 rfl rfl ?_
  refine s_iload 547 dL_law_545 rfl rfl ?_
  refine s_iconst 548 (v := (nI 4)) dL_law_547 rfl (by decide) ?_
  refine s_iadd 549 (v := (nI ((6 * k) + 4))) dL_law_548 rfl (nI_add (6 * k) 4) ?_
  refine l_sld 550 dL_law_549 rfl (show ((6 * k) + 4) < z.2.1 by omega) hL3 ?_
  refine s_aload_n 551 dL_law_550 rfl rfl ?_
  refine s_iload 553 dL_law_551 rfl rfl ?_
  refine s_iconst 554 (v := (nI 5)) dL_law_553 rfl (by decide) ?_
  refine s_iadd 555 (v := (nI ((6 * k) + 5))) dL_law_554 rfl (nI_add (6 * k) 5) ?_
  refine l_sld 556 dL_law_555 rfl (show ((6 * k) + 5) < z.2.1 by omega) hL3 ?_
  refine sp_callV 559 hL [1, 0, 2] 3 rfl (by decide) (L1 := [rfo m (tp, an, D, (fr, wv, hs), (v, RQ, RS, SC, er, mb), ck) th]) (L2 := [flo o (lmG (tp, an, D, (fr, wv, hs), (v, RQ, RS, SC, er, mb), ck) (z.2.2 (6 * k + 1)) (z.2.2 (6 * k + 2)) (z.2.2 (6 * k + 3)) (z.2.2 (6 * k + 4)) (z.2.2 (6 * k + 5))) (h1, h2, N1, N2), pt a3 (.inl (1, 1, .inr (.inl f)))]) rfl rfo_O 1 rfl dL_law_556 rfl cv_L_61 (k_X15_limit (fun s hs => ⟨(hv.1.2.1 s hs).1, hv.2 s hs⟩)) rfl rfl (Nat.le_of_ble_eq_true rfl) ⟨by decide, by omega, by omega⟩ (fun r1 L1 h q hL => ?_)
  obtain ⟨rfl, rfl⟩ := q
  have hL : stars [rfo m (lmG (tp, an, D, (fr, wv, hs), (v, RQ, RS, SC, er, mb), ck) (z.2.2 (6 * k + 1)) (z.2.2 (6 * k + 2)) (z.2.2 (6 * k + 3)) (z.2.2 (6 * k + 4)) (z.2.2 (6 * k + 5))) 0, flo o (lmG (tp, an, D, (fr, wv, hs), (v, RQ, RS, SC, er, mb), ck) (z.2.2 (6 * k + 1)) (z.2.2 (6 * k + 2)) (z.2.2 (6 * k + 3)) (z.2.2 (6 * k + 4)) (z.2.2 (6 * k + 5))) (h1, h2, N1, N2), pt a3 (.inl (1, 1, .inr (.inl f)))] h := hL
  have hL : stars [flo o (lmG (tp, an, D, (fr, wv, hs), (v, RQ, RS, SC, er, mb), ck) (z.2.2 (6 * k + 1)) (z.2.2 (6 * k + 2)) (z.2.2 (6 * k + 3)) (z.2.2 (6 * k + 4)) (z.2.2 (6 * k + 5))) (h1, h2, N1, N2), rfo m (lmG (tp, an, D, (fr, wv, hs), (v, RQ, RS, SC, er, mb), ck) (z.2.2 (6 * k + 1)) (z.2.2 (6 * k + 2)) (z.2.2 (6 * k + 3)) (z.2.2 (6 * k + 4)) (z.2.2 (6 * k + 5))) 0, pt a3 (.inl (1, 1, .inr (.inl f)))] h := stars_ixn hL 3 rfl [1, 0, 2] (by decide) rfl
  refine s_icmp_eq 1367 562 dL_law_559 rfl rfl (fun c559 => ?_) (fun c559 => absurd c559 (fun z9 => z9 rfl))
  exact kk _ _ (t + 1) _ _ _ _ h (ov_lm hv) (x_lm hx) (by omega) (by omega) (by omega) (by omega) hL
set_option maxRecDepth 20000 in
set_option maxHeartbeats 2000000 in
theorem c_file {z : Nat × Nat × (Nat → Int32)} {o m a3 k t th ce sl : Nat} {g : GS} {zh : HD} {f : Nat → Int64} {h : eH} (hL3 : z.2.1 ≤ 3072) (hk6 : 6 * k + 6 ≤ z.2.1) (hv : okV (bnd t) g) (hx : okX g) (ht14 : 14 ≤ t) (ht : t < 600000) (hce : ce + 150 ≤ 601024) (hsl : sl + 12600 ≤ 7293034) (kk : ∀ (g9 : GS) (zh9 : HD) (t9 th9 ce9 sl9 : Nat) (f9 : Nat → Int64) (h9 : eH), okV (bnd t9) g9 → okX g9 → t ≤ t9 → t9 ≤ t + 1001 → ce9 ≤ ce + 150 → sl9 ≤ sl + 12600 → stars [flo o g9 zh9, rfo m g9 th9, pt a3 (.inl (1, 1, .inr (.inl f9)))] h9 → ES (PPL z) FFL mL_law 11 430 601024 7293034 1367 [some (.ref z.1), some (.ref o), some (.ref m), some (.ref a3), some (.int (nI (6 * k))), none, none] [] h9 ce9 sl9) (hL : stars [flo o g zh, rfo m g th, pt a3 (.inl (1, 1, .inr (.inl f)))] h) : ES (PPL z) FFL mL_law 11 430 601024 7293034 564 [some (.ref z.1), some (.ref o), some (.ref m), some (.ref a3), some (.int (nI (6 * k))), none, none] [] h ce sl := by
  obtain ⟨tp, an, D, ⟨fr, wv, hs⟩, ⟨v, RQ, RS, SC, er, mb⟩, ck⟩ := g
  obtain ⟨h1, h2, N1, N2⟩ := zh
  have hW : okW (bnd t) (fr, wv, hs) := hv.1.2.2.1
  have hM : okMS (bnd t) (v, RQ, RS, SC, er, mb) := hv.1.2.2.2.1
  have hv9 : v 9 < 100000000 := Nat.lt_of_le_of_lt hM.1.2.2.2.2.2.1 (show 8 * t < 100000000 by omega)
  have hv1 : v 1 ≤ 2 := hM.1.1
  have hw2 : wv 2 ≤ t := hW.2.1.2.1
  have hw8 : wv 8 ≤ t := hW.2.1.2.2.2.2.2.2.2.1
  have hck : ck ≤ t := hv.1.2.2.2.2.1
  have lhs : hs.length ≤ 64 := hW.2.2.2
  have hb1 : ∀ e ∈ hs, e.1 < 1000000 ∧ e.2 < 1000 := fun e he => by have y := hW.2.2.1 e he; have y1 : e.1 ≤ t + 2000 := y.1; exact ⟨by omega, by omega⟩
  have hb2 : ∀ e ∈ hs, e.1 < 2 ^ 30 ∧ e.2 ≤ 340 := fun e he => by have y := hW.2.2.1 e he; have y1 : e.1 ≤ t + 2000 := y.1; exact ⟨by omega, y.2⟩
  have hL : stars [flo o (tp, an, D, (fr, wv, hs), (v, RQ, RS, SC, er, mb), ck) (h1, h2, N1, N2), rfo m (tp, an, D, (fr, wv, hs), (v, RQ, RS, SC, er, mb), ck) th, pt a3 (.inl (1, 1, .inr (.inl f)))] h := hL
  refine s_aload_n 565 dL_law_564 rfl rfl ?_
  refine s_aload_n 566 dL_law_565 rfl rfl ?_
  refine s_iload 568 dL_law_566 rfl rfl ?_
  refine s_iconst 569 (v := (nI 1)) dL_law_568 rfl (by decide) ?_
  refine s_iadd 570 (v := (nI ((6 * k) + 1))) dL_law_569 rfl (nI_add (6 * k) 1) ?_
  refine l_sld 571 dL_law_570 rfl (show ((6 * k) + 1) < z.2.1 by omega) hL3 ?_
  refine s_aload_n 572 dL_law_571 rfl rfl ?_
  refine s_iload 574 dL_law_572 rfl rfl ?_
  refine s_iconst 575 (v := (nI 2)) dL_law_574 rfl (by decide) ?_
  refine s_iadd 576 (v := (nI ((6 * k) + 2))) dL_law_575 rfl (nI_add (6 * k) 2) ?_
  refine l_sld 577 dL_law_576 rfl (show ((6 * k) + 2) < z.2.1 by omega) hL3 ?_
  refine s_aload_n 578 dL_law_577 rfl rfl ?_
  refine s_iload 580 dL_law_578 rfl rfl ?_
  refine s_iconst 581 (v := (nI 3)) dL_law_580 rfl (by decide) ?_
  refine s_iadd 582 (v := (nI ((6 * k) + 3))) dL_law_581 rfl (nI_add (6 * k) 3) ?_
  refine l_sld 583 dL_law_582 rfl (show ((6 * k) + 3) < z.2.1 by omega) hL3 ?_
  refine sp_callV 586 hL [0, 1, 2] 3 rfl (by decide) (L1 := [flo o (tp, an, D, (fr, wv, hs), (v, RQ, RS, SC, er, mb), ck) (h1, h2, N1, N2)]) (L2 := [rfo m (tp, an, D, (fr, wv, hs), (v, RQ, RS, SC, er, mb), ck) th, pt a3 (.inl (1, 1, .inr (.inl f)))]) rfl flo_O 0 rfl dL_law_583 rfl cv_L_62 (k_X11_file (fun s hs => (hv.1.2.1 s hs).1)) rfl rfl (Nat.le_of_ble_eq_true rfl) ⟨by decide, by omega, by omega⟩ (fun r1 L1 h q hL => ?_)
  obtain ⟨rfl, rfl⟩ := q
  have hL : stars [flo o (flG (tp, an, D, (fr, wv, hs), (v, RQ, RS, SC, er, mb), ck) (z.2.2 (6 * k + 1)) (z.2.2 (6 * k + 2)) (z.2.2 (6 * k + 3))) (h1, h2, N1, N2), rfo m (tp, an, D, (fr, wv, hs), (v, RQ, RS, SC, er, mb), ck) th, pt a3 (.inl (1, 1, .inr (.inl f)))] h := hL
  refine s_aload_n 587 dL_law_586 rfl rfl ?_
  refine s_aload_n 588 dL_law_587 rfl rfl ?_
  refine s_iload 590 dL_law_588 rfl rfl ?_
  refine s_iconst 591 (v := (nI 1)) dL_law_590 rfl (by decide) ?_
  refine s_iadd 592 (v := (nI ((6 * k) + 1))) dL_law_591 rfl (nI_add (6 * k) 1) ?_
  refine l_sld 593 dL_law_592 rfl (show ((6 * k) + 1) < z.2.1 by omega) hL3 ?_
  refine s_aload_n 594 dL_law_593 rfl rfl ?_
  refine s_iload 596 dL_law_594 rfl rfl ?_
  refine s_iconst 597 (v := (nI 2)) dL_law_596 rfl (by decide) ?_
  refine s_iadd 598 (v := (nI ((6 * k) + 2))) dL_law_597 rfl (nI_add (6 * k) 2) ?_
  refine l_sld 599 dL_law_598 rfl (show ((6 * k) + 2) < z.2.1 by omega) hL3 ?_
  refine s_aload_n 600 dL_law_599 rfl rfl ?_
  refine s_iload 602 dL_law_600 rfl rfl ?_
  refine s_iconst 603 (v := (nI 3)) dL_law_602 rfl (by decide) ?_
  refine s_iadd 604 (v := (nI ((6 * k) + 3))) dL_law_603 rfl (nI_add (6 * k) 3) ?_
  refine l_sld 605 dL_law_604 rfl (show ((6 * k) + 3) < z.2.1 by omega) hL3 ?_
  refine sp_callV 608 hL [1, 0, 2] 3 rfl (by decide) (L1 := [rfo m (tp, an, D, (fr, wv, hs), (v, RQ, RS, SC, er, mb), ck) th]) (L2 := [flo o (flG (tp, an, D, (fr, wv, hs), (v, RQ, RS, SC, er, mb), ck) (z.2.2 (6 * k + 1)) (z.2.2 (6 * k + 2)) (z.2.2 (6 * k + 3))) (h1, h2, N1, N2), pt a3 (.inl (1, 1, .inr (.inl f)))]) rfl rfo_O 1 rfl dL_law_605 rfl cv_L_66 (k_X15_file (fun s hs => ⟨(hv.1.2.1 s hs).1, hv.2 s hs⟩)) rfl rfl (Nat.le_of_ble_eq_true rfl) ⟨by decide, by omega, by omega⟩ (fun r1 L1 h q hL => ?_)
  obtain ⟨rfl, rfl⟩ := q
  have hL : stars [rfo m (flG (tp, an, D, (fr, wv, hs), (v, RQ, RS, SC, er, mb), ck) (z.2.2 (6 * k + 1)) (z.2.2 (6 * k + 2)) (z.2.2 (6 * k + 3))) 0, flo o (flG (tp, an, D, (fr, wv, hs), (v, RQ, RS, SC, er, mb), ck) (z.2.2 (6 * k + 1)) (z.2.2 (6 * k + 2)) (z.2.2 (6 * k + 3))) (h1, h2, N1, N2), pt a3 (.inl (1, 1, .inr (.inl f)))] h := hL
  have hL : stars [flo o (flG (tp, an, D, (fr, wv, hs), (v, RQ, RS, SC, er, mb), ck) (z.2.2 (6 * k + 1)) (z.2.2 (6 * k + 2)) (z.2.2 (6 * k + 3))) (h1, h2, N1, N2), rfo m (flG (tp, an, D, (fr, wv, hs), (v, RQ, RS, SC, er, mb), ck) (z.2.2 (6 * k + 1)) (z.2.2 (6 * k + 2)) (z.2.2 (6 * k + 3))) 0, pt a3 (.inl (1, 1, .inr (.inl f)))] h := stars_ixn hL 3 rfl [1, 0, 2] (by decide) rfl
  refine s_icmp_eq 1367 611 dL_law_608 rfl rfl (fun c608 => ?_) (fun c608 => absurd c608 (fun z9 => z9 rfl))
  exact kk _ _ (t + 1) _ _ _ _ h (ov_fl hv) (x_fl9 hx) (by omega) (by omega) (by omega) (by omega) hL
set_option maxRecDepth 20000 in
set_option maxHeartbeats 2000000 in
theorem c_record {z : Nat × Nat × (Nat → Int32)} {o m a3 k t th ce sl : Nat} {g : GS} {zh : HD} {f : Nat → Int64} {h : eH} (hL3 : z.2.1 ≤ 3072) (hk6 : 6 * k + 6 ≤ z.2.1) (hv : okV (bnd t) g) (hx : okX g) (ht14 : 14 ≤ t) (ht : t < 600000) (hce : ce + 150 ≤ 601024) (hsl : sl + 12600 ≤ 7293034) (kk : ∀ (g9 : GS) (zh9 : HD) (t9 th9 ce9 sl9 : Nat) (f9 : Nat → Int64) (h9 : eH), okV (bnd t9) g9 → okX g9 → t ≤ t9 → t9 ≤ t + 1001 → ce9 ≤ ce + 150 → sl9 ≤ sl + 12600 → stars [flo o g9 zh9, rfo m g9 th9, pt a3 (.inl (1, 1, .inr (.inl f9)))] h9 → ES (PPL z) FFL mL_law 11 430 601024 7293034 1367 [some (.ref z.1), some (.ref o), some (.ref m), some (.ref a3), some (.int (nI (6 * k))), none, none] [] h9 ce9 sl9) (hL : stars [flo o g zh, rfo m g th, pt a3 (.inl (1, 1, .inr (.inl f)))] h) : ES (PPL z) FFL mL_law 11 430 601024 7293034 613 [some (.ref z.1), some (.ref o), some (.ref m), some (.ref a3), some (.int (nI (6 * k))), none, none] [] h ce sl := by
  obtain ⟨tp, an, D, ⟨fr, wv, hs⟩, ⟨v, RQ, RS, SC, er, mb⟩, ck⟩ := g
  obtain ⟨h1, h2, N1, N2⟩ := zh
  have hW : okW (bnd t) (fr, wv, hs) := hv.1.2.2.1
  have hM : okMS (bnd t) (v, RQ, RS, SC, er, mb) := hv.1.2.2.2.1
  have hv9 : v 9 < 100000000 := Nat.lt_of_le_of_lt hM.1.2.2.2.2.2.1 (show 8 * t < 100000000 by omega)
  have hv1 : v 1 ≤ 2 := hM.1.1
  have hw2 : wv 2 ≤ t := hW.2.1.2.1
  have hw8 : wv 8 ≤ t := hW.2.1.2.2.2.2.2.2.2.1
  have hck : ck ≤ t := hv.1.2.2.2.2.1
  have lhs : hs.length ≤ 64 := hW.2.2.2
  have hb1 : ∀ e ∈ hs, e.1 < 1000000 ∧ e.2 < 1000 := fun e he => by have y := hW.2.2.1 e he; have y1 : e.1 ≤ t + 2000 := y.1; exact ⟨by omega, by omega⟩
  have hb2 : ∀ e ∈ hs, e.1 < 2 ^ 30 ∧ e.2 ≤ 340 := fun e he => by have y := hW.2.2.1 e he; have y1 : e.1 ≤ t + 2000 := y.1; exact ⟨by omega, y.2⟩
  have hL : stars [flo o (tp, an, D, (fr, wv, hs), (v, RQ, RS, SC, er, mb), ck) (h1, h2, N1, N2), rfo m (tp, an, D, (fr, wv, hs), (v, RQ, RS, SC, er, mb), ck) th, pt a3 (.inl (1, 1, .inr (.inl f)))] h := hL
  refine s_aload_n 614 dL_law_613 rfl rfl ?_
  refine s_aload_n 615 dL_law_614 rfl rfl ?_
  refine s_iload 617 dL_law_615 rfl rfl ?_
  refine s_iconst 618 (v := (nI 1)) dL_law_617 rfl (by decide) ?_
  refine s_iadd 619 (v := (nI ((6 * k) + 1))) dL_law_618 rfl (nI_add (6 * k) 1) ?_
  refine l_sld 620 dL_law_619 rfl (show ((6 * k) + 1) < z.2.1 by omega) hL3 ?_
  refine s_aload_n 621 dL_law_620 rfl rfl ?_
  refine s_iload 623 dL_law_621 rfl rfl ?_
  refine s_iconst 624 (v := (nI 2)) dL_law_623 rfl (by decide) ?_
  refine s_iadd 625 (v := (nI ((6 * k) + 2))) dL_law_624 rfl (nI_add (6 * k) 2) ?_
  refine l_sld 626 dL_law_625 rfl (show ((6 * k) + 2) < z.2.1 by omega) hL3 ?_
  refine s_aload_n 627 dL_law_626 rfl rfl ?_
  refine s_iload 629 dL_law_627 rfl rfl ?_
  refine s_iconst 630 (v := (nI 3)) dL_law_629 rfl (by decide) ?_
  refine s_iadd 631 (v := (nI ((6 * k) + 3))) dL_law_630 rfl (nI_add (6 * k) 3) ?_
  refine l_sld 632 dL_law_631 rfl (show ((6 * k) + 3) < z.2.1 by omega) hL3 ?_
  refine sp_callV 635 hL [0, 1, 2] 3 rfl (by decide) (L1 := [flo o (tp, an, D, (fr, wv, hs), (v, RQ, RS, SC, er, mb), ck) (h1, h2, N1, N2)]) (L2 := [rfo m (tp, an, D, (fr, wv, hs), (v, RQ, RS, SC, er, mb), ck) th, pt a3 (.inl (1, 1, .inr (.inl f)))]) rfl flo_O 0 rfl dL_law_632 rfl cv_L_67 (k_X11_record (fun s hs => (hv.1.2.1 s hs).1)) rfl rfl (Nat.le_of_ble_eq_true rfl) ⟨by decide, by omega, by omega⟩ (fun r1 L1 h q hL => ?_)
  obtain ⟨rfl, rfl⟩ := q
  have hL : stars [flo o (tp, an, D, (fr, wv, hs), (v, RQ, RS, SC, er, mb), ck) (h1, h2, N1, N2), rfo m (tp, an, D, (fr, wv, hs), (v, RQ, RS, SC, er, mb), ck) th, pt a3 (.inl (1, 1, .inr (.inl f)))] h := hL
  refine s_aload_n 636 dL_law_635 rfl rfl ?_
  refine s_aload_n 637 dL_law_636 rfl rfl ?_
  refine s_iload 639 dL_law_637 rfl rfl ?_
  refine s_iconst 640 (v := (nI 1)) dL_law_639 rfl (by decide) ?_
  refine s_iadd 641 (v := (nI ((6 * k) + 1))) dL_law_640 rfl (nI_add (6 * k) 1) ?_
  refine l_sld 642 dL_law_641 rfl (show ((6 * k) + 1) < z.2.1 by omega) hL3 ?_
  refine s_aload_n 643 dL_law_642 rfl rfl ?_
  refine s_iload 645 dL_law_643 rfl rfl ?_
  refine s_iconst 646 (v := (nI 2)) dL_law_645 rfl (by decide) ?_
  refine s_iadd 647 (v := (nI ((6 * k) + 2))) dL_law_646 rfl (nI_add (6 * k) 2) ?_
  refine l_sld 648 dL_law_647 rfl (show ((6 * k) + 2) < z.2.1 by omega) hL3 ?_
  refine s_aload_n 649 dL_law_648 rfl rfl ?_
  refine s_iload 651 dL_law_649 rfl rfl ?_
  refine s_iconst 652 (v := (nI 3)) dL_law_651 rfl (by decide) ?_
  refine s_iadd 653 (v := (nI ((6 * k) + 3))) dL_law_652 rfl (nI_add (6 * k) 3) ?_
  refine l_sld 654 dL_law_653 rfl (show ((6 * k) + 3) < z.2.1 by omega) hL3 ?_
  refine sp_callV 657 hL [1, 0, 2] 3 rfl (by decide) (L1 := [rfo m (tp, an, D, (fr, wv, hs), (v, RQ, RS, SC, er, mb), ck) th]) (L2 := [flo o (tp, an, D, (fr, wv, hs), (v, RQ, RS, SC, er, mb), ck) (h1, h2, N1, N2), pt a3 (.inl (1, 1, .inr (.inl f)))]) rfl rfo_O 1 rfl dL_law_654 rfl cv_L_70 (k_X15_record (fun s hs => ⟨(hv.1.2.1 s hs).1, hv.2 s hs⟩)) rfl rfl (Nat.le_of_ble_eq_true rfl) ⟨by decide, by omega, by omega⟩ (fun r1 L1 h q hL => ?_)
  obtain ⟨rfl, rfl⟩ := q
  have hL : stars [rfo m (tp, an, D, (fr, wv, hs), (v, RQ, RS, SC, er, mb), ck) 0, flo o (tp, an, D, (fr, wv, hs), (v, RQ, RS, SC, er, mb), ck) (h1, h2, N1, N2), pt a3 (.inl (1, 1, .inr (.inl f)))] h := hL
  have hL : stars [flo o (tp, an, D, (fr, wv, hs), (v, RQ, RS, SC, er, mb), ck) (h1, h2, N1, N2), rfo m (tp, an, D, (fr, wv, hs), (v, RQ, RS, SC, er, mb), ck) 0, pt a3 (.inl (1, 1, .inr (.inl f)))] h := stars_ixn hL 3 rfl [1, 0, 2] (by decide) rfl
  refine s_icmp_eq 1367 660 dL_law_657 rfl rfl (fun c657 => ?_) (fun c657 => absurd c657 (fun z9 => z9 rfl))
  exact kk _ _ (t + 1) _ _ _ _ h (ov_up hv) hx (by omega) (by omega) (by omega) (by omega) hL
set_option maxRecDepth 20000 in
set_option maxHeartbeats 2000000 in
theorem c_queue {z : Nat × Nat × (Nat → Int32)} {o m a3 k t th ce sl : Nat} {g : GS} {zh : HD} {f : Nat → Int64} {h : eH} (hL3 : z.2.1 ≤ 3072) (hk6 : 6 * k + 6 ≤ z.2.1) (hv : okV (bnd t) g) (hx : okX g) (ht14 : 14 ≤ t) (ht : t < 600000) (hce : ce + 150 ≤ 601024) (hsl : sl + 12600 ≤ 7293034) (kk : ∀ (g9 : GS) (zh9 : HD) (t9 th9 ce9 sl9 : Nat) (f9 : Nat → Int64) (h9 : eH), okV (bnd t9) g9 → okX g9 → t ≤ t9 → t9 ≤ t + 1001 → ce9 ≤ ce + 150 → sl9 ≤ sl + 12600 → stars [flo o g9 zh9, rfo m g9 th9, pt a3 (.inl (1, 1, .inr (.inl f9)))] h9 → ES (PPL z) FFL mL_law 11 430 601024 7293034 1367 [some (.ref z.1), some (.ref o), some (.ref m), some (.ref a3), some (.int (nI (6 * k))), none, none] [] h9 ce9 sl9) (hL : stars [flo o g zh, rfo m g th, pt a3 (.inl (1, 1, .inr (.inl f)))] h) : ES (PPL z) FFL mL_law 11 430 601024 7293034 662 [some (.ref z.1), some (.ref o), some (.ref m), some (.ref a3), some (.int (nI (6 * k))), none, none] [] h ce sl := by
  obtain ⟨tp, an, D, ⟨fr, wv, hs⟩, ⟨v, RQ, RS, SC, er, mb⟩, ck⟩ := g
  obtain ⟨h1, h2, N1, N2⟩ := zh
  have hW : okW (bnd t) (fr, wv, hs) := hv.1.2.2.1
  have hM : okMS (bnd t) (v, RQ, RS, SC, er, mb) := hv.1.2.2.2.1
  have hv9 : v 9 < 100000000 := Nat.lt_of_le_of_lt hM.1.2.2.2.2.2.1 (show 8 * t < 100000000 by omega)
  have hv1 : v 1 ≤ 2 := hM.1.1
  have hw2 : wv 2 ≤ t := hW.2.1.2.1
  have hw8 : wv 8 ≤ t := hW.2.1.2.2.2.2.2.2.2.1
  have hck : ck ≤ t := hv.1.2.2.2.2.1
  have lhs : hs.length ≤ 64 := hW.2.2.2
  have hb1 : ∀ e ∈ hs, e.1 < 1000000 ∧ e.2 < 1000 := fun e he => by have y := hW.2.2.1 e he; have y1 : e.1 ≤ t + 2000 := y.1; exact ⟨by omega, by omega⟩
  have hb2 : ∀ e ∈ hs, e.1 < 2 ^ 30 ∧ e.2 ≤ 340 := fun e he => by have y := hW.2.2.1 e he; have y1 : e.1 ≤ t + 2000 := y.1; exact ⟨by omega, y.2⟩
  have hL : stars [flo o (tp, an, D, (fr, wv, hs), (v, RQ, RS, SC, er, mb), ck) (h1, h2, N1, N2), rfo m (tp, an, D, (fr, wv, hs), (v, RQ, RS, SC, er, mb), ck) th, pt a3 (.inl (1, 1, .inr (.inl f)))] h := hL
  refine s_aload_n 663 dL_law_662 rfl rfl ?_
  refine s_aload_n 664 dL_law_663 rfl rfl ?_
  refine s_iload 666 dL_law_664 rfl rfl ?_
  refine s_iconst 667 (v := (nI 1)) dL_law_666 rfl (by decide) ?_
  refine s_iadd 668 (v := (nI ((6 * k) + 1))) dL_law_667 rfl (nI_add (6 * k) 1) ?_
  refine l_sld 669 dL_law_668 rfl (show ((6 * k) + 1) < z.2.1 by omega) hL3 ?_
  refine s_aload_n 670 dL_law_669 rfl rfl ?_
  refine s_iload 672 dL_law_670 rfl rfl ?_
  refine s_iconst 673 (v := (nI 2)) dL_law_672 rfl (by decide) ?_
  refine s_iadd 674 (v := (nI ((6 * k) + 2))) dL_law_673 rfl (nI_add (6 * k) 2) ?_
  refine l_sld 675 dL_law_674 rfl (show ((6 * k) + 2) < z.2.1 by omega) hL3 ?_
  refine sp_callV 678 hL [0, 1, 2] 3 rfl (by decide) (L1 := [flo o (tp, an, D, (fr, wv, hs), (v, RQ, RS, SC, er, mb), ck) (h1, h2, N1, N2)]) (L2 := [rfo m (tp, an, D, (fr, wv, hs), (v, RQ, RS, SC, er, mb), ck) th, pt a3 (.inl (1, 1, .inr (.inl f)))]) rfl flo_O 0 rfl dL_law_675 rfl cv_L_71 (k_X11_queue (fun s hs => (hv.1.2.1 s hs).1)) rfl rfl (Nat.le_of_ble_eq_true rfl) ⟨by decide, by omega, by omega⟩ (fun r1 L1 h q hL => ?_)
  obtain ⟨rfl, rfl⟩ := q
  have hL : stars [flo o (quG (tp, an, D, (fr, wv, hs), (v, RQ, RS, SC, er, mb), ck) (z.2.2 (6 * k + 1)) (z.2.2 (6 * k + 2))) (h1, h2, N1, N2), rfo m (tp, an, D, (fr, wv, hs), (v, RQ, RS, SC, er, mb), ck) th, pt a3 (.inl (1, 1, .inr (.inl f)))] h := hL
  refine s_aload_n 679 dL_law_678 rfl rfl ?_
  refine s_aload_n 680 dL_law_679 rfl rfl ?_
  refine s_iload 682 dL_law_680 rfl rfl ?_
  refine s_iconst 683 (v := (nI 1)) dL_law_682 rfl (by decide) ?_
  refine s_iadd 684 (v := (nI ((6 * k) + 1))) dL_law_683 rfl (nI_add (6 * k) 1) ?_
  refine l_sld 685 dL_law_684 rfl (show ((6 * k) + 1) < z.2.1 by omega) hL3 ?_
  refine s_aload_n 686 dL_law_685 rfl rfl ?_
  refine s_iload 688 dL_law_686 rfl rfl ?_
  refine s_iconst 689 (v := (nI 2)) dL_law_688 rfl (by decide) ?_
  refine s_iadd 690 (v := (nI ((6 * k) + 2))) dL_law_689 rfl (nI_add (6 * k) 2) ?_
  refine l_sld 691 dL_law_690 rfl (show ((6 * k) + 2) < z.2.1 by omega) hL3 ?_
  refine sp_callV 694 hL [1, 0, 2] 3 rfl (by decide) (L1 := [rfo m (tp, an, D, (fr, wv, hs), (v, RQ, RS, SC, er, mb), ck) th]) (L2 := [flo o (quG (tp, an, D, (fr, wv, hs), (v, RQ, RS, SC, er, mb), ck) (z.2.2 (6 * k + 1)) (z.2.2 (6 * k + 2))) (h1, h2, N1, N2), pt a3 (.inl (1, 1, .inr (.inl f)))]) rfl rfo_O 1 rfl dL_law_691 rfl cv_L_75 (k_X15_queue (fun s hs => ⟨(hv.1.2.1 s hs).1, hv.2 s hs⟩)) rfl rfl (Nat.le_of_ble_eq_true rfl) ⟨by decide, by omega, by omega⟩ (fun r1 L1 h q hL => ?_)
  obtain ⟨rfl, rfl⟩ := q
  have hL : stars [rfo m (quG (tp, an, D, (fr, wv, hs), (v, RQ, RS, SC, er, mb), ck) (z.2.2 (6 * k + 1)) (z.2.2 (6 * k + 2))) 0, flo o (quG (tp, an, D, (fr, wv, hs), (v, RQ, RS, SC, er, mb), ck) (z.2.2 (6 * k + 1)) (z.2.2 (6 * k + 2))) (h1, h2, N1, N2), pt a3 (.inl (1, 1, .inr (.inl f)))] h := hL
  have hL : stars [flo o (quG (tp, an, D, (fr, wv, hs), (v, RQ, RS, SC, er, mb), ck) (z.2.2 (6 * k + 1)) (z.2.2 (6 * k + 2))) (h1, h2, N1, N2), rfo m (quG (tp, an, D, (fr, wv, hs), (v, RQ, RS, SC, er, mb), ck) (z.2.2 (6 * k + 1)) (z.2.2 (6 * k + 2))) 0, pt a3 (.inl (1, 1, .inr (.inl f)))] h := stars_ixn hL 3 rfl [1, 0, 2] (by decide) rfl
  refine s_icmp_eq 1367 697 dL_law_694 rfl rfl (fun c694 => ?_) (fun c694 => absurd c694 (fun z9 => z9 rfl))
  exact kk _ _ (t + 1) _ _ _ _ h (ov_qu hv) (x_qu hx) (by omega) (by omega) (by omega) (by omega) hL
set_option maxRecDepth 20000 in
set_option maxHeartbeats 2000000 in
theorem c_push {z : Nat × Nat × (Nat → Int32)} {o m a3 k t th ce sl : Nat} {g : GS} {zh : HD} {f : Nat → Int64} {h : eH} (hL3 : z.2.1 ≤ 3072) (hk6 : 6 * k + 6 ≤ z.2.1) (hv : okV (bnd t) g) (hx : okX g) (ht14 : 14 ≤ t) (ht : t < 600000) (hce : ce + 150 ≤ 601024) (hsl : sl + 12600 ≤ 7293034) (kk : ∀ (g9 : GS) (zh9 : HD) (t9 th9 ce9 sl9 : Nat) (f9 : Nat → Int64) (h9 : eH), okV (bnd t9) g9 → okX g9 → t ≤ t9 → t9 ≤ t + 1001 → ce9 ≤ ce + 150 → sl9 ≤ sl + 12600 → stars [flo o g9 zh9, rfo m g9 th9, pt a3 (.inl (1, 1, .inr (.inl f9)))] h9 → ES (PPL z) FFL mL_law 11 430 601024 7293034 1367 [some (.ref z.1), some (.ref o), some (.ref m), some (.ref a3), some (.int (nI (6 * k))), none, none] [] h9 ce9 sl9) (hL : stars [flo o g zh, rfo m g th, pt a3 (.inl (1, 1, .inr (.inl f)))] h) : ES (PPL z) FFL mL_law 11 430 601024 7293034 699 [some (.ref z.1), some (.ref o), some (.ref m), some (.ref a3), some (.int (nI (6 * k))), none, none] [] h ce sl := by
  obtain ⟨tp, an, D, ⟨fr, wv, hs⟩, ⟨v, RQ, RS, SC, er, mb⟩, ck⟩ := g
  obtain ⟨h1, h2, N1, N2⟩ := zh
  have hW : okW (bnd t) (fr, wv, hs) := hv.1.2.2.1
  have hM : okMS (bnd t) (v, RQ, RS, SC, er, mb) := hv.1.2.2.2.1
  have hv9 : v 9 < 100000000 := Nat.lt_of_le_of_lt hM.1.2.2.2.2.2.1 (show 8 * t < 100000000 by omega)
  have hv1 : v 1 ≤ 2 := hM.1.1
  have hw2 : wv 2 ≤ t := hW.2.1.2.1
  have hw8 : wv 8 ≤ t := hW.2.1.2.2.2.2.2.2.2.1
  have hck : ck ≤ t := hv.1.2.2.2.2.1
  have lhs : hs.length ≤ 64 := hW.2.2.2
  have hb1 : ∀ e ∈ hs, e.1 < 1000000 ∧ e.2 < 1000 := fun e he => by have y := hW.2.2.1 e he; have y1 : e.1 ≤ t + 2000 := y.1; exact ⟨by omega, by omega⟩
  have hb2 : ∀ e ∈ hs, e.1 < 2 ^ 30 ∧ e.2 ≤ 340 := fun e he => by have y := hW.2.2.1 e he; have y1 : e.1 ≤ t + 2000 := y.1; exact ⟨by omega, y.2⟩
  have hL : stars [flo o (tp, an, D, (fr, wv, hs), (v, RQ, RS, SC, er, mb), ck) (h1, h2, N1, N2), rfo m (tp, an, D, (fr, wv, hs), (v, RQ, RS, SC, er, mb), ck) th, pt a3 (.inl (1, 1, .inr (.inl f)))] h := hL
  refine s_aload_n 700 dL_law_699 rfl rfl ?_
  refine s_aload_n 701 dL_law_700 rfl rfl ?_
  refine s_iload 703 dL_law_701 rfl rfl ?_
  refine s_iconst 704 (v := (nI 1)) dL_law_703 rfl (by decide) ?_
  refine s_iadd 705 (v := (nI ((6 * k) + 1))) dL_law_704 rfl (nI_add (6 * k) 1) ?_
  refine l_sld 706 dL_law_705 rfl (show ((6 * k) + 1) < z.2.1 by omega) hL3 ?_
  refine s_aload_n 707 dL_law_706 rfl rfl ?_
  refine s_iload 709 dL_law_707 rfl rfl ?_
  refine s_iconst 710 (v := (nI 2)) dL_law_709 rfl (by decide) ?_
  refine s_iadd 711 (v := (nI ((6 * k) + 2))) dL_law_710 rfl (nI_add (6 * k) 2) ?_
  refine l_sld 712 dL_law_711 rfl (show ((6 * k) + 2) < z.2.1 by omega) hL3 ?_
  refine s_aload_n 713 dL_law_712 rfl rfl ?_
  refine s_iload 715 dL_law_713 rfl rfl ?_
  refine s_iconst 716 (v := (nI 3)) dL_law_715 rfl (by decide) ?_
  refine s_iadd 717 (v := (nI ((6 * k) + 3))) dL_law_716 rfl (nI_add (6 * k) 3) ?_
  refine l_sld 718 dL_law_717 rfl (show ((6 * k) + 3) < z.2.1 by omega) hL3 ?_
  refine sp_callV 721 hL [0, 1, 2] 3 rfl (by decide) (L1 := [flo o (tp, an, D, (fr, wv, hs), (v, RQ, RS, SC, er, mb), ck) (h1, h2, N1, N2)]) (L2 := [rfo m (tp, an, D, (fr, wv, hs), (v, RQ, RS, SC, er, mb), ck) th, pt a3 (.inl (1, 1, .inr (.inl f)))]) rfl flo_O 0 rfl dL_law_718 rfl cv_L_76 (k_X11_push (fun s hs => (hv.1.2.1 s hs).1)) rfl rfl (Nat.le_of_ble_eq_true rfl) ⟨by decide, by omega, by omega⟩ (fun r1 L1 h q hL => ?_)
  obtain ⟨rfl, rfl⟩ := q
  have hL : stars [flo o (psG (tp, an, D, (fr, wv, hs), (v, RQ, RS, SC, er, mb), ck) (z.2.2 (6 * k + 1)) (z.2.2 (6 * k + 2)) (z.2.2 (6 * k + 3))) (h1, h2, N1, N2), rfo m (tp, an, D, (fr, wv, hs), (v, RQ, RS, SC, er, mb), ck) th, pt a3 (.inl (1, 1, .inr (.inl f)))] h := hL
  refine s_aload_n 722 dL_law_721 rfl rfl ?_
  refine s_aload_n 723 dL_law_722 rfl rfl ?_
  refine s_iload 725 dL_law_723 rfl rfl ?_
  refine s_iconst 726 (v := (nI 1)) dL_law_725 rfl (by decide) ?_
  refine s_iadd 727 (v := (nI ((6 * k) + 1))) dL_law_726 rfl (nI_add (6 * k) 1) ?_
  refine l_sld 728 dL_law_727 rfl (show ((6 * k) + 1) < z.2.1 by omega) hL3 ?_
  refine s_aload_n 729 dL_law_728 rfl rfl ?_
  refine s_iload 731 dL_law_729 rfl rfl ?_
  refine s_iconst 732 (v := (nI 2)) dL_law_731 rfl (by decide) ?_
  refine s_iadd 733 (v := (nI ((6 * k) + 2))) dL_law_732 rfl (nI_add (6 * k) 2) ?_
  refine l_sld 734 dL_law_733 rfl (show ((6 * k) + 2) < z.2.1 by omega) hL3 ?_
  refine s_aload_n 735 dL_law_734 rfl rfl ?_
  refine s_iload 737 dL_law_735 rfl rfl ?_
  refine s_iconst 738 (v := (nI 3)) dL_law_737 rfl (by decide) ?_
  refine s_iadd 739 (v := (nI ((6 * k) + 3))) dL_law_738 rfl (nI_add (6 * k) 3) ?_
  refine l_sld 740 dL_law_739 rfl (show ((6 * k) + 3) < z.2.1 by omega) hL3 ?_
  refine sp_callV 743 hL [1, 0, 2] 3 rfl (by decide) (L1 := [rfo m (tp, an, D, (fr, wv, hs), (v, RQ, RS, SC, er, mb), ck) th]) (L2 := [flo o (psG (tp, an, D, (fr, wv, hs), (v, RQ, RS, SC, er, mb), ck) (z.2.2 (6 * k + 1)) (z.2.2 (6 * k + 2)) (z.2.2 (6 * k + 3))) (h1, h2, N1, N2), pt a3 (.inl (1, 1, .inr (.inl f)))]) rfl rfo_O 1 rfl dL_law_740 rfl cv_L_79 (k_X15_push (fun s hs => ⟨(hv.1.2.1 s hs).1, hv.2 s hs⟩)) rfl rfl (Nat.le_of_ble_eq_true rfl) ⟨by decide, by omega, by omega⟩ (fun r1 L1 h q hL => ?_)
  obtain ⟨rfl, rfl⟩ := q
  have hL : stars [rfo m (psG (tp, an, D, (fr, wv, hs), (v, RQ, RS, SC, er, mb), ck) (z.2.2 (6 * k + 1)) (z.2.2 (6 * k + 2)) (z.2.2 (6 * k + 3))) 0, flo o (psG (tp, an, D, (fr, wv, hs), (v, RQ, RS, SC, er, mb), ck) (z.2.2 (6 * k + 1)) (z.2.2 (6 * k + 2)) (z.2.2 (6 * k + 3))) (h1, h2, N1, N2), pt a3 (.inl (1, 1, .inr (.inl f)))] h := hL
  have hL : stars [flo o (psG (tp, an, D, (fr, wv, hs), (v, RQ, RS, SC, er, mb), ck) (z.2.2 (6 * k + 1)) (z.2.2 (6 * k + 2)) (z.2.2 (6 * k + 3))) (h1, h2, N1, N2), rfo m (psG (tp, an, D, (fr, wv, hs), (v, RQ, RS, SC, er, mb), ck) (z.2.2 (6 * k + 1)) (z.2.2 (6 * k + 2)) (z.2.2 (6 * k + 3))) 0, pt a3 (.inl (1, 1, .inr (.inl f)))] h := stars_ixn hL 3 rfl [1, 0, 2] (by decide) rfl
  refine s_icmp_eq 1367 746 dL_law_743 rfl rfl (fun c743 => ?_) (fun c743 => absurd c743 (fun z9 => z9 rfl))
  exact kk _ _ (t + 1) _ _ _ _ h (ov_ps hv) (x_ps hx) (by omega) (by omega) (by omega) (by omega) hL
set_option maxRecDepth 20000 in
set_option maxHeartbeats 2000000 in
theorem c_name {z : Nat × Nat × (Nat → Int32)} {o m a3 k t th ce sl : Nat} {g : GS} {zh : HD} {f : Nat → Int64} {h : eH} (hL3 : z.2.1 ≤ 3072) (hk6 : 6 * k + 6 ≤ z.2.1) (hv : okV (bnd t) g) (hx : okX g) (ht14 : 14 ≤ t) (ht : t < 600000) (hce : ce + 150 ≤ 601024) (hsl : sl + 12600 ≤ 7293034) (kk : ∀ (g9 : GS) (zh9 : HD) (t9 th9 ce9 sl9 : Nat) (f9 : Nat → Int64) (h9 : eH), okV (bnd t9) g9 → okX g9 → t ≤ t9 → t9 ≤ t + 1001 → ce9 ≤ ce + 150 → sl9 ≤ sl + 12600 → stars [flo o g9 zh9, rfo m g9 th9, pt a3 (.inl (1, 1, .inr (.inl f9)))] h9 → ES (PPL z) FFL mL_law 11 430 601024 7293034 1367 [some (.ref z.1), some (.ref o), some (.ref m), some (.ref a3), some (.int (nI (6 * k))), none, none] [] h9 ce9 sl9) (hL : stars [flo o g zh, rfo m g th, pt a3 (.inl (1, 1, .inr (.inl f)))] h) : ES (PPL z) FFL mL_law 11 430 601024 7293034 748 [some (.ref z.1), some (.ref o), some (.ref m), some (.ref a3), some (.int (nI (6 * k))), none, none] [] h ce sl := by
  obtain ⟨tp, an, D, ⟨fr, wv, hs⟩, ⟨v, RQ, RS, SC, er, mb⟩, ck⟩ := g
  obtain ⟨h1, h2, N1, N2⟩ := zh
  have hW : okW (bnd t) (fr, wv, hs) := hv.1.2.2.1
  have hM : okMS (bnd t) (v, RQ, RS, SC, er, mb) := hv.1.2.2.2.1
  have hv9 : v 9 < 100000000 := Nat.lt_of_le_of_lt hM.1.2.2.2.2.2.1 (show 8 * t < 100000000 by omega)
  have hv1 : v 1 ≤ 2 := hM.1.1
  have hw2 : wv 2 ≤ t := hW.2.1.2.1
  have hw8 : wv 8 ≤ t := hW.2.1.2.2.2.2.2.2.2.1
  have hck : ck ≤ t := hv.1.2.2.2.2.1
  have lhs : hs.length ≤ 64 := hW.2.2.2
  have hb1 : ∀ e ∈ hs, e.1 < 1000000 ∧ e.2 < 1000 := fun e he => by have y := hW.2.2.1 e he; have y1 : e.1 ≤ t + 2000 := y.1; exact ⟨by omega, by omega⟩
  have hb2 : ∀ e ∈ hs, e.1 < 2 ^ 30 ∧ e.2 ≤ 340 := fun e he => by have y := hW.2.2.1 e he; have y1 : e.1 ≤ t + 2000 := y.1; exact ⟨by omega, y.2⟩
  have hL : stars [flo o (tp, an, D, (fr, wv, hs), (v, RQ, RS, SC, er, mb), ck) (h1, h2, N1, N2), rfo m (tp, an, D, (fr, wv, hs), (v, RQ, RS, SC, er, mb), ck) th, pt a3 (.inl (1, 1, .inr (.inl f)))] h := hL
  refine s_aload_n 749 dL_law_748 rfl rfl ?_
  refine s_aload_n 750 dL_law_749 rfl rfl ?_
  refine s_iload 752 dL_law_750 rfl rfl ?_
  refine s_iconst 753 (v := (nI 1)) dL_law_752 rfl (by decide) ?_
  refine s_iadd 754 (v := (nI ((6 * k) + 1))) dL_law_753 rfl (nI_add (6 * k) 1) ?_
  refine l_sld 755 dL_law_754 rfl (show ((6 * k) + 1) < z.2.1 by omega) hL3 ?_
  refine s_aload_n 756 dL_law_755 rfl rfl ?_
  refine s_iload 758 dL_law_756 rfl rfl ?_
  refine s_iconst 759 (v := (nI 2)) dL_law_758 rfl (by decide) ?_
  refine s_iadd 760 (v := (nI ((6 * k) + 2))) dL_law_759 rfl (nI_add (6 * k) 2) ?_
  refine l_sld 761 dL_law_760 rfl (show ((6 * k) + 2) < z.2.1 by omega) hL3 ?_
  refine sp_callV 764 hL [0, 1, 2] 3 rfl (by decide) (L1 := [flo o (tp, an, D, (fr, wv, hs), (v, RQ, RS, SC, er, mb), ck) (h1, h2, N1, N2)]) (L2 := [rfo m (tp, an, D, (fr, wv, hs), (v, RQ, RS, SC, er, mb), ck) th, pt a3 (.inl (1, 1, .inr (.inl f)))]) rfl flo_O 0 rfl dL_law_761 rfl cv_L_80 (k_X11_name (fun s hs => (hv.1.2.1 s hs).1)) rfl rfl (Nat.le_of_ble_eq_true rfl) ⟨by decide, by omega, by omega⟩ (fun r1 L1 h q hL => ?_)
  obtain ⟨rfl, rfl⟩ := q
  have hL : stars [flo o (nmG (tp, an, D, (fr, wv, hs), (v, RQ, RS, SC, er, mb), ck) (z.2.2 (6 * k + 1)) (z.2.2 (6 * k + 2))) (h1, h2, N1, N2), rfo m (tp, an, D, (fr, wv, hs), (v, RQ, RS, SC, er, mb), ck) th, pt a3 (.inl (1, 1, .inr (.inl f)))] h := hL
  refine s_aload_n 765 dL_law_764 rfl rfl ?_
  refine s_aload_n 766 dL_law_765 rfl rfl ?_
  refine s_iload 768 dL_law_766 rfl rfl ?_
  refine s_iconst 769 (v := (nI 1)) dL_law_768 rfl (by decide) ?_
  refine s_iadd 770 (v := (nI ((6 * k) + 1))) dL_law_769 rfl (nI_add (6 * k) 1) ?_
  refine l_sld 771 dL_law_770 rfl (show ((6 * k) + 1) < z.2.1 by omega) hL3 ?_
  refine s_aload_n 772 dL_law_771 rfl rfl ?_
  refine s_iload 774 dL_law_772 rfl rfl ?_
  refine s_iconst 775 (v := (nI 2)) dL_law_774 rfl (by decide) ?_
  refine s_iadd 776 (v := (nI ((6 * k) + 2))) dL_law_775 rfl (nI_add (6 * k) 2) ?_
  refine l_sld 777 dL_law_776 rfl (show ((6 * k) + 2) < z.2.1 by omega) hL3 ?_
  refine sp_callV 780 hL [1, 0, 2] 3 rfl (by decide) (L1 := [rfo m (tp, an, D, (fr, wv, hs), (v, RQ, RS, SC, er, mb), ck) th]) (L2 := [flo o (nmG (tp, an, D, (fr, wv, hs), (v, RQ, RS, SC, er, mb), ck) (z.2.2 (6 * k + 1)) (z.2.2 (6 * k + 2))) (h1, h2, N1, N2), pt a3 (.inl (1, 1, .inr (.inl f)))]) rfl rfo_O 1 rfl dL_law_777 rfl cv_L_83 (k_X15_name (fun s hs => ⟨(hv.1.2.1 s hs).1, hv.2 s hs⟩)) rfl rfl (Nat.le_of_ble_eq_true rfl) ⟨by decide, by omega, by omega⟩ (fun r1 L1 h q hL => ?_)
  obtain ⟨rfl, rfl⟩ := q
  have hL : stars [rfo m (nmG (tp, an, D, (fr, wv, hs), (v, RQ, RS, SC, er, mb), ck) (z.2.2 (6 * k + 1)) (z.2.2 (6 * k + 2))) 0, flo o (nmG (tp, an, D, (fr, wv, hs), (v, RQ, RS, SC, er, mb), ck) (z.2.2 (6 * k + 1)) (z.2.2 (6 * k + 2))) (h1, h2, N1, N2), pt a3 (.inl (1, 1, .inr (.inl f)))] h := hL
  have hL : stars [flo o (nmG (tp, an, D, (fr, wv, hs), (v, RQ, RS, SC, er, mb), ck) (z.2.2 (6 * k + 1)) (z.2.2 (6 * k + 2))) (h1, h2, N1, N2), rfo m (nmG (tp, an, D, (fr, wv, hs), (v, RQ, RS, SC, er, mb), ck) (z.2.2 (6 * k + 1)) (z.2.2 (6 * k + 2))) 0, pt a3 (.inl (1, 1, .inr (.inl f)))] h := stars_ixn hL 3 rfl [1, 0, 2] (by decide) rfl
  refine s_icmp_eq 1367 783 dL_law_780 rfl rfl (fun c780 => ?_) (fun c780 => absurd c780 (fun z9 => z9 rfl))
  exact kk _ _ (t + 1) _ _ _ _ h (ov_nm hv) (x_nm hx) (by omega) (by omega) (by omega) (by omega) hL
set_option maxRecDepth 20000 in
set_option maxHeartbeats 2000000 in
theorem c_rule {z : Nat × Nat × (Nat → Int32)} {o m a3 k t th ce sl : Nat} {g : GS} {zh : HD} {f : Nat → Int64} {h : eH} (hL3 : z.2.1 ≤ 3072) (hk6 : 6 * k + 6 ≤ z.2.1) (hv : okV (bnd t) g) (hx : okX g) (ht14 : 14 ≤ t) (ht : t < 600000) (hce : ce + 150 ≤ 601024) (hsl : sl + 12600 ≤ 7293034) (kk : ∀ (g9 : GS) (zh9 : HD) (t9 th9 ce9 sl9 : Nat) (f9 : Nat → Int64) (h9 : eH), okV (bnd t9) g9 → okX g9 → t ≤ t9 → t9 ≤ t + 1001 → ce9 ≤ ce + 150 → sl9 ≤ sl + 12600 → stars [flo o g9 zh9, rfo m g9 th9, pt a3 (.inl (1, 1, .inr (.inl f9)))] h9 → ES (PPL z) FFL mL_law 11 430 601024 7293034 1367 [some (.ref z.1), some (.ref o), some (.ref m), some (.ref a3), some (.int (nI (6 * k))), none, none] [] h9 ce9 sl9) (hL : stars [flo o g zh, rfo m g th, pt a3 (.inl (1, 1, .inr (.inl f)))] h) : ES (PPL z) FFL mL_law 11 430 601024 7293034 785 [some (.ref z.1), some (.ref o), some (.ref m), some (.ref a3), some (.int (nI (6 * k))), none, none] [] h ce sl := by
  obtain ⟨tp, an, D, ⟨fr, wv, hs⟩, ⟨v, RQ, RS, SC, er, mb⟩, ck⟩ := g
  obtain ⟨h1, h2, N1, N2⟩ := zh
  have hW : okW (bnd t) (fr, wv, hs) := hv.1.2.2.1
  have hM : okMS (bnd t) (v, RQ, RS, SC, er, mb) := hv.1.2.2.2.1
  have hv9 : v 9 < 100000000 := Nat.lt_of_le_of_lt hM.1.2.2.2.2.2.1 (show 8 * t < 100000000 by omega)
  have hv1 : v 1 ≤ 2 := hM.1.1
  have hw2 : wv 2 ≤ t := hW.2.1.2.1
  have hw8 : wv 8 ≤ t := hW.2.1.2.2.2.2.2.2.2.1
  have hck : ck ≤ t := hv.1.2.2.2.2.1
  have lhs : hs.length ≤ 64 := hW.2.2.2
  have hb1 : ∀ e ∈ hs, e.1 < 1000000 ∧ e.2 < 1000 := fun e he => by have y := hW.2.2.1 e he; have y1 : e.1 ≤ t + 2000 := y.1; exact ⟨by omega, by omega⟩
  have hb2 : ∀ e ∈ hs, e.1 < 2 ^ 30 ∧ e.2 ≤ 340 := fun e he => by have y := hW.2.2.1 e he; have y1 : e.1 ≤ t + 2000 := y.1; exact ⟨by omega, y.2⟩
  have hL : stars [flo o (tp, an, D, (fr, wv, hs), (v, RQ, RS, SC, er, mb), ck) (h1, h2, N1, N2), rfo m (tp, an, D, (fr, wv, hs), (v, RQ, RS, SC, er, mb), ck) th, pt a3 (.inl (1, 1, .inr (.inl f)))] h := hL
  refine s_aload_n 786 dL_law_785 rfl rfl ?_
  refine s_aload_n 787 dL_law_786 rfl rfl ?_
  refine s_iload 789 dL_law_787 rfl rfl ?_
  refine s_iconst 790 (v := (nI 1)) dL_law_789 rfl (by decide) ?_
  refine s_iadd 791 (v := (nI ((6 * k) + 1))) dL_law_790 rfl (nI_add (6 * k) 1) ?_
  refine l_sld 792 dL_law_791 rfl (show ((6 * k) + 1) < z.2.1 by omega) hL3 ?_
  refine s_aload_n 793 dL_law_792 rfl rfl ?_
  refine s_iload 795 dL_law_793 rfl rfl ?_
  refine s_iconst 796 (v := (nI 2)) dL_law_795 rfl (by decide) ?_
  refine s_iadd 797 (v := (nI ((6 * k) + 2))) dL_law_796 rfl (nI_add (6 * k) 2) ?_
  refine l_sld 798 dL_law_797 rfl (show ((6 * k) + 2) < z.2.1 by omega) hL3 ?_
  refine s_aload_n 799 dL_law_798 rfl rfl ?_
  refine s_iload 801 dL_law_799 rfl rfl ?_
  refine s_iconst 802 (v := (nI 3)) dL_law_801 rfl (by decide) ?_
  refine s_iadd 803 (v := (nI ((6 * k) + 3))) dL_law_802 rfl (nI_add (6 * k) 3) ?_
  refine l_sld 804 dL_law_803 rfl (show ((6 * k) + 3) < z.2.1 by omega) hL3 ?_
  refine s_aload_n 805 dL_law_804 rfl rfl ?_
  refine s_iload 807 dL_law_805 rfl rfl ?_
  refine s_iconst 808 (v := (nI 4)) dL_law_807 rfl (by decide) ?_
  refine s_iadd 809 (v := (nI ((6 * k) + 4))) dL_law_808 rfl (nI_add (6 * k) 4) ?_
  refine l_sld 810 dL_law_809 rfl (show ((6 * k) + 4) < z.2.1 by omega) hL3 ?_
  refine s_aload_n 811 dL_law_810 rfl rfl ?_
  refine s_iload 813 dL_law_811 rfl rfl ?_
  refine s_iconst 814 (v := (nI 5)) dL_law_813 rfl (by decide) ?_
  refine s_iadd 815 (v := (nI ((6 * k) + 5))) dL_law_814 rfl (nI_add (6 * k) 5) ?_
  refine l_sld 816 dL_law_815 rfl (show ((6 * k) + 5) < z.2.1 by omega) hL3 ?_
  refine sp_callV 819 hL [0, 1, 2] 3 rfl (by decide) (L1 := [flo o (tp, an, D, (fr, wv, hs), (v, RQ, RS, SC, er, mb), ck) (h1, h2, N1, N2)]) (L2 := [rfo m (tp, an, D, (fr, wv, hs), (v, RQ, RS, SC, er, mb), ck) th, pt a3 (.inl (1, 1, .inr (.inl f)))]) rfl flo_O 0 rfl dL_law_816 rfl cv_L_84 (k_X11_rule (fun s hs => (hv.1.2.1 s hs).1)) rfl rfl (Nat.le_of_ble_eq_true rfl) ⟨by decide, by omega, by omega⟩ (fun r1 L1 h q hL => ?_)
  obtain ⟨rfl, rfl⟩ := q
  have hL : stars [flo o (ruG (tp, an, D, (fr, wv, hs), (v, RQ, RS, SC, er, mb), ck) (z.2.2 (6 * k + 1)) (z.2.2 (6 * k + 2)) (z.2.2 (6 * k + 3)) (z.2.2 (6 * k + 4)) (z.2.2 (6 * k + 5))) (h1, h2, N1, N2), rfo m (tp, an, D, (fr, wv, hs), (v, RQ, RS, SC, er, mb), ck) th, pt a3 (.inl (1, 1, .inr (.inl f)))] h := hL
  refine s_aload_n 820 dL_law_819 rfl rfl ?_
  refine s_aload_n 821 dL_law_820 rfl rfl ?_
  refine s_iload 823 dL_law_821 rfl rfl ?_
  refine s_iconst 824 (v := (nI 1)) dL_law_823 rfl (by decide) ?_
  refine s_iadd 825 (v := (nI ((6 * k) + 1))) dL_law_824 rfl (nI_add (6 * k) 1) ?_
  refine l_sld 826 dL_law_825 rfl (show ((6 * k) + 1) < z.2.1 by omega) hL3 ?_
  refine s_aload_n 827 dL_law_826 rfl rfl ?_
  refine s_iload 829 dL_law_827 rfl rfl ?_
  refine s_iconst 830 (v := (nI 2)) dL_law_829 rfl (by decide) ?_
  refine s_iadd 831 (v := (nI ((6 * k) + 2))) dL_law_830 rfl (nI_add (6 * k) 2) ?_
  refine l_sld 832 dL_law_831 rfl (show ((6 * k) + 2) < z.2.1 by omega) hL3 ?_
  refine s_aload_n 833 dL_law_832 rfl rfl ?_
  refine s_iload 835 dL_law_833 rfl rfl ?_
  refine s_iconst 836 (v := (nI 3)) dL_law_835 rfl (by decide) ?_
  refine s_iadd 837 (v := (nI ((6 * k) + 3))) dL_law_836 rfl (nI_add (6 * k) 3) ?_
  refine l_sld 838 dL_law_837 rfl (show ((6 * k) + 3) < z.2.1 by omega) hL3 ?_
  refine s_aload_n 839 dL_law_838 rfl rfl ?_
  refine s_iload 841 dL_law_839 rfl rfl ?_
  refine s_iconst 842 (v := (nI 4)) dL_law_841 rfl (by decide) ?_
  refine s_iadd 843 (v := (nI ((6 * k) + 4))) dL_law_842 rfl (nI_add (6 * k) 4) ?_
  refine l_sld 844 dL_law_843 rfl (show ((6 * k) + 4) < z.2.1 by omega) hL3 ?_
  refine s_aload_n 845 dL_law_844 rfl rfl ?_
  refine s_iload 847 dL_law_845 rfl rfl ?_
  refine s_iconst 848 (v := (nI 5)) dL_law_847 rfl (by decide) ?_
  refine s_iadd 849 (v := (nI ((6 * k) + 5))) dL_law_848 rfl (nI_add (6 * k) 5) ?_
  refine l_sld 850 dL_law_849 rfl (show ((6 * k) + 5) < z.2.1 by omega) hL3 ?_
  refine sp_callV 853 hL [1, 0, 2] 3 rfl (by decide) (L1 := [rfo m (tp, an, D, (fr, wv, hs), (v, RQ, RS, SC, er, mb), ck) th]) (L2 := [flo o (ruG (tp, an, D, (fr, wv, hs), (v, RQ, RS, SC, er, mb), ck) (z.2.2 (6 * k + 1)) (z.2.2 (6 * k + 2)) (z.2.2 (6 * k + 3)) (z.2.2 (6 * k + 4)) (z.2.2 (6 * k + 5))) (h1, h2, N1, N2), pt a3 (.inl (1, 1, .inr (.inl f)))]) rfl rfo_O 1 rfl dL_law_850 rfl cv_L_87 (k_X15_rule (fun s hs => ⟨(hv.1.2.1 s hs).1, hv.2 s hs⟩)) rfl rfl (Nat.le_of_ble_eq_true rfl) ⟨by decide, by omega, by omega⟩ (fun r1 L1 h q hL => ?_)
  obtain ⟨rfl, rfl⟩ := q
  have hL : stars [rfo m (ruG (tp, an, D, (fr, wv, hs), (v, RQ, RS, SC, er, mb), ck) (z.2.2 (6 * k + 1)) (z.2.2 (6 * k + 2)) (z.2.2 (6 * k + 3)) (z.2.2 (6 * k + 4)) (z.2.2 (6 * k + 5))) 0, flo o (ruG (tp, an, D, (fr, wv, hs), (v, RQ, RS, SC, er, mb), ck) (z.2.2 (6 * k + 1)) (z.2.2 (6 * k + 2)) (z.2.2 (6 * k + 3)) (z.2.2 (6 * k + 4)) (z.2.2 (6 * k + 5))) (h1, h2, N1, N2), pt a3 (.inl (1, 1, .inr (.inl f)))] h := hL
  have hL : stars [flo o (ruG (tp, an, D, (fr, wv, hs), (v, RQ, RS, SC, er, mb), ck) (z.2.2 (6 * k + 1)) (z.2.2 (6 * k + 2)) (z.2.2 (6 * k + 3)) (z.2.2 (6 * k + 4)) (z.2.2 (6 * k + 5))) (h1, h2, N1, N2), rfo m (ruG (tp, an, D, (fr, wv, hs), (v, RQ, RS, SC, er, mb), ck) (z.2.2 (6 * k + 1)) (z.2.2 (6 * k + 2)) (z.2.2 (6 * k + 3)) (z.2.2 (6 * k + 4)) (z.2.2 (6 * k + 5))) 0, pt a3 (.inl (1, 1, .inr (.inl f)))] h := stars_ixn hL 3 rfl [1, 0, 2] (by decide) rfl
  refine s_icmp_eq 1367 856 dL_law_853 rfl rfl (fun c853 => ?_) (fun c853 => absurd c853 (fun z9 => z9 rfl))
  exact kk _ _ (t + 1) _ _ _ _ h (ov_ru hv) (x_ru hx) (by omega) (by omega) (by omega) (by omega) hL
set_option maxRecDepth 20000 in
set_option maxHeartbeats 2000000 in
theorem c_busy {z : Nat × Nat × (Nat → Int32)} {o m a3 k t th ce sl : Nat} {g : GS} {zh : HD} {f : Nat → Int64} {h : eH} (hL3 : z.2.1 ≤ 3072) (hk6 : 6 * k + 6 ≤ z.2.1) (hv : okV (bnd t) g) (hx : okX g) (ht14 : 14 ≤ t) (ht : t < 600000) (hce : ce + 150 ≤ 601024) (hsl : sl + 12600 ≤ 7293034) (kk : ∀ (g9 : GS) (zh9 : HD) (t9 th9 ce9 sl9 : Nat) (f9 : Nat → Int64) (h9 : eH), okV (bnd t9) g9 → okX g9 → t ≤ t9 → t9 ≤ t + 1001 → ce9 ≤ ce + 150 → sl9 ≤ sl + 12600 → stars [flo o g9 zh9, rfo m g9 th9, pt a3 (.inl (1, 1, .inr (.inl f9)))] h9 → ES (PPL z) FFL mL_law 11 430 601024 7293034 1367 [some (.ref z.1), some (.ref o), some (.ref m), some (.ref a3), some (.int (nI (6 * k))), none, none] [] h9 ce9 sl9) (hL : stars [flo o g zh, rfo m g th, pt a3 (.inl (1, 1, .inr (.inl f)))] h) : ES (PPL z) FFL mL_law 11 430 601024 7293034 858 [some (.ref z.1), some (.ref o), some (.ref m), some (.ref a3), some (.int (nI (6 * k))), none, none] [] h ce sl := by
  obtain ⟨tp, an, D, ⟨fr, wv, hs⟩, ⟨v, RQ, RS, SC, er, mb⟩, ck⟩ := g
  obtain ⟨h1, h2, N1, N2⟩ := zh
  have hW : okW (bnd t) (fr, wv, hs) := hv.1.2.2.1
  have hM : okMS (bnd t) (v, RQ, RS, SC, er, mb) := hv.1.2.2.2.1
  have hv9 : v 9 < 100000000 := Nat.lt_of_le_of_lt hM.1.2.2.2.2.2.1 (show 8 * t < 100000000 by omega)
  have hv1 : v 1 ≤ 2 := hM.1.1
  have hw2 : wv 2 ≤ t := hW.2.1.2.1
  have hw8 : wv 8 ≤ t := hW.2.1.2.2.2.2.2.2.2.1
  have hck : ck ≤ t := hv.1.2.2.2.2.1
  have lhs : hs.length ≤ 64 := hW.2.2.2
  have hb1 : ∀ e ∈ hs, e.1 < 1000000 ∧ e.2 < 1000 := fun e he => by have y := hW.2.2.1 e he; have y1 : e.1 ≤ t + 2000 := y.1; exact ⟨by omega, by omega⟩
  have hb2 : ∀ e ∈ hs, e.1 < 2 ^ 30 ∧ e.2 ≤ 340 := fun e he => by have y := hW.2.2.1 e he; have y1 : e.1 ≤ t + 2000 := y.1; exact ⟨by omega, y.2⟩
  have hL : stars [flo o (tp, an, D, (fr, wv, hs), (v, RQ, RS, SC, er, mb), ck) (h1, h2, N1, N2), rfo m (tp, an, D, (fr, wv, hs), (v, RQ, RS, SC, er, mb), ck) th, pt a3 (.inl (1, 1, .inr (.inl f)))] h := hL
  refine s_aload_n 859 dL_law_858 rfl rfl ?_
  refine s_aload_n 860 dL_law_859 rfl rfl ?_
  refine s_iload 862 dL_law_860 rfl rfl ?_
  refine s_iconst 863 (v := (nI 1)) dL_law_862 rfl (by decide) ?_
  refine s_iadd 864 (v := (nI ((6 * k) + 1))) dL_law_863 rfl (nI_add (6 * k) 1) ?_
  refine l_sld 865 dL_law_864 rfl (show ((6 * k) + 1) < z.2.1 by omega) hL3 ?_
  refine s_aload_n 866 dL_law_865 rfl rfl ?_
  refine s_iload 868 dL_law_866 rfl rfl ?_
  refine s_iconst 869 (v := (nI 2)) dL_law_868 rfl (by decide) ?_
  refine s_iadd 870 (v := (nI ((6 * k) + 2))) dL_law_869 rfl (nI_add (6 * k) 2) ?_
  refine l_sld 871 dL_law_870 rfl (show ((6 * k) + 2) < z.2.1 by omega) hL3 ?_
  refine sp_callV 874 hL [0, 1, 2] 3 rfl (by decide) (L1 := [flo o (tp, an, D, (fr, wv, hs), (v, RQ, RS, SC, er, mb), ck) (h1, h2, N1, N2)]) (L2 := [rfo m (tp, an, D, (fr, wv, hs), (v, RQ, RS, SC, er, mb), ck) th, pt a3 (.inl (1, 1, .inr (.inl f)))]) rfl flo_O 0 rfl dL_law_871 rfl cv_L_88 (k_X11_busy (fun s hs => (hv.1.2.1 s hs).1)) rfl rfl (Nat.le_of_ble_eq_true rfl) ⟨by decide, by omega, by omega⟩ (fun r1 L1 h q hL => ?_)
  obtain ⟨rfl, rfl⟩ := q
  have hL : stars [flo o (buG (tp, an, D, (fr, wv, hs), (v, RQ, RS, SC, er, mb), ck) (z.2.2 (6 * k + 1)) (z.2.2 (6 * k + 2))) (h1, h2, N1, N2), rfo m (tp, an, D, (fr, wv, hs), (v, RQ, RS, SC, er, mb), ck) th, pt a3 (.inl (1, 1, .inr (.inl f)))] h := hL
  refine s_aload_n 875 dL_law_874 rfl rfl ?_
  refine s_aload_n 876 dL_law_875 rfl rfl ?_
  refine s_iload 878 dL_law_876 rfl rfl ?_
  refine s_iconst 879 (v := (nI 1)) dL_law_878 rfl (by decide) ?_
  refine s_iadd 880 (v := (nI ((6 * k) + 1))) dL_law_879 rfl (nI_add (6 * k) 1) ?_
  refine l_sld 881 dL_law_880 rfl (show ((6 * k) + 1) < z.2.1 by omega) hL3 ?_
  refine s_aload_n 882 dL_law_881 rfl rfl ?_
  refine s_iload 884 dL_law_882 rfl rfl ?_
  refine s_iconst 885 (v := (nI 2)) dL_law_884 rfl (by decide) ?_
  refine s_iadd 886 (v := (nI ((6 * k) + 2))) dL_law_885 rfl (nI_add (6 * k) 2) ?_
  refine l_sld 887 dL_law_886 rfl (show ((6 * k) + 2) < z.2.1 by omega) hL3 ?_
  refine sp_callV 890 hL [1, 0, 2] 3 rfl (by decide) (L1 := [rfo m (tp, an, D, (fr, wv, hs), (v, RQ, RS, SC, er, mb), ck) th]) (L2 := [flo o (buG (tp, an, D, (fr, wv, hs), (v, RQ, RS, SC, er, mb), ck) (z.2.2 (6 * k + 1)) (z.2.2 (6 * k + 2))) (h1, h2, N1, N2), pt a3 (.inl (1, 1, .inr (.inl f)))]) rfl rfo_O 1 rfl dL_law_887 rfl cv_L_91 (k_X15_busy (fun s hs => ⟨(hv.1.2.1 s hs).1, hv.2 s hs⟩)) rfl rfl (Nat.le_of_ble_eq_true rfl) ⟨by decide, by omega, by omega⟩ (fun r1 L1 h q hL => ?_)
  obtain ⟨rfl, rfl⟩ := q
  have hL : stars [rfo m (buG (tp, an, D, (fr, wv, hs), (v, RQ, RS, SC, er, mb), ck) (z.2.2 (6 * k + 1)) (z.2.2 (6 * k + 2))) 0, flo o (buG (tp, an, D, (fr, wv, hs), (v, RQ, RS, SC, er, mb), ck) (z.2.2 (6 * k + 1)) (z.2.2 (6 * k + 2))) (h1, h2, N1, N2), pt a3 (.inl (1, 1, .inr (.inl f)))] h := hL
  have hL : stars [flo o (buG (tp, an, D, (fr, wv, hs), (v, RQ, RS, SC, er, mb), ck) (z.2.2 (6 * k + 1)) (z.2.2 (6 * k + 2))) (h1, h2, N1, N2), rfo m (buG (tp, an, D, (fr, wv, hs), (v, RQ, RS, SC, er, mb), ck) (z.2.2 (6 * k + 1)) (z.2.2 (6 * k + 2))) 0, pt a3 (.inl (1, 1, .inr (.inl f)))] h := stars_ixn hL 3 rfl [1, 0, 2] (by decide) rfl
  refine s_icmp_eq 1367 893 dL_law_890 rfl rfl (fun c890 => ?_) (fun c890 => absurd c890 (fun z9 => z9 rfl))
  exact kk _ _ (t + 1) _ _ _ _ h (ov_bu hv) (x_bu hx) (by omega) (by omega) (by omega) (by omega) hL
set_option maxRecDepth 20000 in
set_option maxHeartbeats 2000000 in
theorem c_serve {z : Nat × Nat × (Nat → Int32)} {o m a3 k t th ce sl : Nat} {g : GS} {zh : HD} {f : Nat → Int64} {h : eH} (hL3 : z.2.1 ≤ 3072) (hk6 : 6 * k + 6 ≤ z.2.1) (hv : okV (bnd t) g) (hx : okX g) (ht14 : 14 ≤ t) (ht : t < 600000) (hce : ce + 150 ≤ 601024) (hsl : sl + 12600 ≤ 7293034) (kk : ∀ (g9 : GS) (zh9 : HD) (t9 th9 ce9 sl9 : Nat) (f9 : Nat → Int64) (h9 : eH), okV (bnd t9) g9 → okX g9 → t ≤ t9 → t9 ≤ t + 1001 → ce9 ≤ ce + 150 → sl9 ≤ sl + 12600 → stars [flo o g9 zh9, rfo m g9 th9, pt a3 (.inl (1, 1, .inr (.inl f9)))] h9 → ES (PPL z) FFL mL_law 11 430 601024 7293034 1367 [some (.ref z.1), some (.ref o), some (.ref m), some (.ref a3), some (.int (nI (6 * k))), none, none] [] h9 ce9 sl9) (hL : stars [flo o g zh, rfo m g th, pt a3 (.inl (1, 1, .inr (.inl f)))] h) : ES (PPL z) FFL mL_law 11 430 601024 7293034 895 [some (.ref z.1), some (.ref o), some (.ref m), some (.ref a3), some (.int (nI (6 * k))), none, none] [] h ce sl := by
  obtain ⟨tp, an, D, ⟨fr, wv, hs⟩, ⟨v, RQ, RS, SC, er, mb⟩, ck⟩ := g
  obtain ⟨h1, h2, N1, N2⟩ := zh
  have hW : okW (bnd t) (fr, wv, hs) := hv.1.2.2.1
  have hM : okMS (bnd t) (v, RQ, RS, SC, er, mb) := hv.1.2.2.2.1
  have hv9 : v 9 < 100000000 := Nat.lt_of_le_of_lt hM.1.2.2.2.2.2.1 (show 8 * t < 100000000 by omega)
  have hv1 : v 1 ≤ 2 := hM.1.1
  have hw2 : wv 2 ≤ t := hW.2.1.2.1
  have hw8 : wv 8 ≤ t := hW.2.1.2.2.2.2.2.2.2.1
  have hck : ck ≤ t := hv.1.2.2.2.2.1
  have lhs : hs.length ≤ 64 := hW.2.2.2
  have hb1 : ∀ e ∈ hs, e.1 < 1000000 ∧ e.2 < 1000 := fun e he => by have y := hW.2.2.1 e he; have y1 : e.1 ≤ t + 2000 := y.1; exact ⟨by omega, by omega⟩
  have hb2 : ∀ e ∈ hs, e.1 < 2 ^ 30 ∧ e.2 ≤ 340 := fun e he => by have y := hW.2.2.1 e he; have y1 : e.1 ≤ t + 2000 := y.1; exact ⟨by omega, y.2⟩
  have hL : stars [flo o (tp, an, D, (fr, wv, hs), (v, RQ, RS, SC, er, mb), ck) (h1, h2, N1, N2), rfo m (tp, an, D, (fr, wv, hs), (v, RQ, RS, SC, er, mb), ck) th, pt a3 (.inl (1, 1, .inr (.inl f)))] h := hL
  refine s_aload_n 896 dL_law_895 rfl rfl ?_
  refine s_aload_n 897 dL_law_896 rfl rfl ?_
  refine s_iload 899 dL_law_897 rfl rfl ?_
  refine s_iconst 900 (v := (nI 1)) dL_law_899 rfl (by decide) ?_
  refine s_iadd 901 (v := (nI ((6 * k) + 1))) dL_law_900 rfl (nI_add (6 * k) 1) ?_
  refine l_sld 902 dL_law_901 rfl (show ((6 * k) + 1) < z.2.1 by omega) hL3 ?_
  refine sp_callV 905 hL [0, 1, 2] 3 rfl (by decide) (L1 := [flo o (tp, an, D, (fr, wv, hs), (v, RQ, RS, SC, er, mb), ck) (h1, h2, N1, N2)]) (L2 := [rfo m (tp, an, D, (fr, wv, hs), (v, RQ, RS, SC, er, mb), ck) th, pt a3 (.inl (1, 1, .inr (.inl f)))]) rfl flo_O 0 rfl dL_law_902 rfl cv_L_92 (k_X11_serve (fun s hs => (hv.1.2.1 s hs).1) hv.1.1) rfl rfl (Nat.le_of_ble_eq_true rfl) ⟨by decide, by omega, by omega⟩ (fun r1 L1 h q hL => ?_)
  obtain ⟨rfl, rfl⟩ := q
  have hL : stars [flo o (seG (tp, an, D, (fr, wv, hs), (v, RQ, RS, SC, er, mb), ck) (z.2.2 (6 * k + 1))) (h1, h2, N1, N2), rfo m (tp, an, D, (fr, wv, hs), (v, RQ, RS, SC, er, mb), ck) th, pt a3 (.inl (1, 1, .inr (.inl f)))] h := hL
  refine s_aload_n 906 dL_law_905 rfl rfl ?_
  refine s_aload_n 907 dL_law_906 rfl rfl ?_
  refine s_iload 909 dL_law_907 rfl rfl ?_
  refine s_iconst 910 (v := (nI 1)) dL_law_909 rfl (by decide) ?_
  refine s_iadd 911 (v := (nI ((6 * k) + 1))) dL_law_910 rfl (nI_add (6 * k) 1) ?_
  refine l_sld 912 dL_law_911 rfl (show ((6 * k) + 1) < z.2.1 by omega) hL3 ?_
  refine sp_callV 915 hL [1, 0, 2] 3 rfl (by decide) (L1 := [rfo m (tp, an, D, (fr, wv, hs), (v, RQ, RS, SC, er, mb), ck) th]) (L2 := [flo o (seG (tp, an, D, (fr, wv, hs), (v, RQ, RS, SC, er, mb), ck) (z.2.2 (6 * k + 1))) (h1, h2, N1, N2), pt a3 (.inl (1, 1, .inr (.inl f)))]) rfl rfo_O 1 rfl dL_law_912 rfl cv_L_95 (k_X15_serve_ (fun s hs => ⟨(hv.1.2.1 s hs).1, hv.2 s hs⟩) hv.1.1) rfl rfl (Nat.le_of_ble_eq_true rfl) ⟨by decide, by omega, by omega⟩ (fun r1 L1 h q hL => ?_)
  obtain ⟨rfl, rfl⟩ := q
  have hL : stars [rfo m (seG (tp, an, D, (fr, wv, hs), (v, RQ, RS, SC, er, mb), ck) (z.2.2 (6 * k + 1))) 0, flo o (seG (tp, an, D, (fr, wv, hs), (v, RQ, RS, SC, er, mb), ck) (z.2.2 (6 * k + 1))) (h1, h2, N1, N2), pt a3 (.inl (1, 1, .inr (.inl f)))] h := hL
  have hL : stars [flo o (seG (tp, an, D, (fr, wv, hs), (v, RQ, RS, SC, er, mb), ck) (z.2.2 (6 * k + 1))) (h1, h2, N1, N2), rfo m (seG (tp, an, D, (fr, wv, hs), (v, RQ, RS, SC, er, mb), ck) (z.2.2 (6 * k + 1))) 0, pt a3 (.inl (1, 1, .inr (.inl f)))] h := stars_ixn hL 3 rfl [1, 0, 2] (by decide) rfl
  refine s_icmp_eq 1367 918 dL_law_915 rfl rfl (fun c915 => ?_) (fun c915 => absurd c915 (fun z9 => z9 rfl))
  exact kk _ _ (t + 1) _ _ _ _ h (ov_se hv) (x_se hx) (by omega) (by omega) (by omega) (by omega) hL
set_option maxRecDepth 20000 in
set_option maxHeartbeats 2000000 in
theorem c_answer {z : Nat × Nat × (Nat → Int32)} {o m a3 k t th ce sl : Nat} {g : GS} {zh : HD} {f : Nat → Int64} {h : eH} (hL3 : z.2.1 ≤ 3072) (hk6 : 6 * k + 6 ≤ z.2.1) (hv : okV (bnd t) g) (hx : okX g) (ht14 : 14 ≤ t) (ht : t < 600000) (hce : ce + 150 ≤ 601024) (hsl : sl + 12600 ≤ 7293034) (kk : ∀ (g9 : GS) (zh9 : HD) (t9 th9 ce9 sl9 : Nat) (f9 : Nat → Int64) (h9 : eH), okV (bnd t9) g9 → okX g9 → t ≤ t9 → t9 ≤ t + 1001 → ce9 ≤ ce + 150 → sl9 ≤ sl + 12600 → stars [flo o g9 zh9, rfo m g9 th9, pt a3 (.inl (1, 1, .inr (.inl f9)))] h9 → ES (PPL z) FFL mL_law 11 430 601024 7293034 1367 [some (.ref z.1), some (.ref o), some (.ref m), some (.ref a3), some (.int (nI (6 * k))), none, none] [] h9 ce9 sl9) (hL : stars [flo o g zh, rfo m g th, pt a3 (.inl (1, 1, .inr (.inl f)))] h) : ES (PPL z) FFL mL_law 11 430 601024 7293034 920 [some (.ref z.1), some (.ref o), some (.ref m), some (.ref a3), some (.int (nI (6 * k))), none, none] [] h ce sl := by
  obtain ⟨tp, an, D, ⟨fr, wv, hs⟩, ⟨v, RQ, RS, SC, er, mb⟩, ck⟩ := g
  obtain ⟨h1, h2, N1, N2⟩ := zh
  have hW : okW (bnd t) (fr, wv, hs) := hv.1.2.2.1
  have hM : okMS (bnd t) (v, RQ, RS, SC, er, mb) := hv.1.2.2.2.1
  have hv9 : v 9 < 100000000 := Nat.lt_of_le_of_lt hM.1.2.2.2.2.2.1 (show 8 * t < 100000000 by omega)
  have hv1 : v 1 ≤ 2 := hM.1.1
  have hw2 : wv 2 ≤ t := hW.2.1.2.1
  have hw8 : wv 8 ≤ t := hW.2.1.2.2.2.2.2.2.2.1
  have hck : ck ≤ t := hv.1.2.2.2.2.1
  have lhs : hs.length ≤ 64 := hW.2.2.2
  have hb1 : ∀ e ∈ hs, e.1 < 1000000 ∧ e.2 < 1000 := fun e he => by have y := hW.2.2.1 e he; have y1 : e.1 ≤ t + 2000 := y.1; exact ⟨by omega, by omega⟩
  have hb2 : ∀ e ∈ hs, e.1 < 2 ^ 30 ∧ e.2 ≤ 340 := fun e he => by have y := hW.2.2.1 e he; have y1 : e.1 ≤ t + 2000 := y.1; exact ⟨by omega, y.2⟩
  have hL : stars [flo o (tp, an, D, (fr, wv, hs), (v, RQ, RS, SC, er, mb), ck) (h1, h2, N1, N2), rfo m (tp, an, D, (fr, wv, hs), (v, RQ, RS, SC, er, mb), ck) th, pt a3 (.inl (1, 1, .inr (.inl f)))] h := hL
  refine s_aload_n 921 dL_law_920 rfl rfl ?_
  refine s_aload_n 922 dL_law_921 rfl rfl ?_
  refine s_iload 924 dL_law_922 rfl rfl ?_
  refine s_iconst 925 (v := (nI 1)) dL_law_924 rfl (by decide) ?_
  refine s_iadd 926 (v := (nI ((6 * k) + 1))) dL_law_925 rfl (nI_add (6 * k) 1) ?_
  refine l_sld 927 dL_law_926 rfl (show ((6 * k) + 1) < z.2.1 by omega) hL3 ?_
  refine sp_callV 930 hL [0, 1, 2] 3 rfl (by decide) (L1 := [flo o (tp, an, D, (fr, wv, hs), (v, RQ, RS, SC, er, mb), ck) (h1, h2, N1, N2)]) (L2 := [rfo m (tp, an, D, (fr, wv, hs), (v, RQ, RS, SC, er, mb), ck) th, pt a3 (.inl (1, 1, .inr (.inl f)))]) rfl flo_O 0 rfl dL_law_927 rfl cv_L_96 k_X11_answer rfl rfl (Nat.le_of_ble_eq_true rfl) ⟨by decide, by omega, by omega⟩ (fun r1 L1 h q hL => ?_)
  obtain ⟨rfl, rfl⟩ := q
  have hL : stars [flo o (tp, an, D, (fr, wv, hs), (v, RQ, RS, SC, er, mb), ck) (h1, h2, N1, N2), rfo m (tp, an, D, (fr, wv, hs), (v, RQ, RS, SC, er, mb), ck) th, pt a3 (.inl (1, 1, .inr (.inl f)))] h := hL
  refine s_aload_n 931 dL_law_930 rfl rfl ?_
  refine s_aload_n 932 dL_law_931 rfl rfl ?_
  refine s_iload 934 dL_law_932 rfl rfl ?_
  refine s_iconst 935 (v := (nI 1)) dL_law_934 rfl (by decide) ?_
  refine s_iadd 936 (v := (nI ((6 * k) + 1))) dL_law_935 rfl (nI_add (6 * k) 1) ?_
  refine l_sld 937 dL_law_936 rfl (show ((6 * k) + 1) < z.2.1 by omega) hL3 ?_
  refine sp_callV 940 hL [1, 0, 2] 3 rfl (by decide) (L1 := [rfo m (tp, an, D, (fr, wv, hs), (v, RQ, RS, SC, er, mb), ck) th]) (L2 := [flo o (tp, an, D, (fr, wv, hs), (v, RQ, RS, SC, er, mb), ck) (h1, h2, N1, N2), pt a3 (.inl (1, 1, .inr (.inl f)))]) rfl rfo_O 1 rfl dL_law_937 rfl cv_L_99 k_X15_answer rfl rfl (Nat.le_of_ble_eq_true rfl) ⟨by decide, by omega, by omega⟩ (fun r1 L1 h q hL => ?_)
  obtain ⟨rfl, rfl⟩ := q
  have hL : stars [rfo m (tp, an, D, (fr, wv, hs), (v, RQ, RS, SC, er, mb), ck) 0, flo o (tp, an, D, (fr, wv, hs), (v, RQ, RS, SC, er, mb), ck) (h1, h2, N1, N2), pt a3 (.inl (1, 1, .inr (.inl f)))] h := hL
  have hL : stars [flo o (tp, an, D, (fr, wv, hs), (v, RQ, RS, SC, er, mb), ck) (h1, h2, N1, N2), rfo m (tp, an, D, (fr, wv, hs), (v, RQ, RS, SC, er, mb), ck) 0, pt a3 (.inl (1, 1, .inr (.inl f)))] h := stars_ixn hL 3 rfl [1, 0, 2] (by decide) rfl
  refine s_icmp_eq 1367 943 dL_law_940 rfl rfl (fun c940 => ?_) (fun c940 => absurd c940 (fun z9 => z9 rfl))
  exact kk _ _ (t + 1) _ _ _ _ h (ov_up hv) hx (by omega) (by omega) (by omega) (by omega) hL
set_option maxRecDepth 20000 in
set_option maxHeartbeats 2000000 in
theorem c_settings {z : Nat × Nat × (Nat → Int32)} {o m a3 k t th ce sl : Nat} {g : GS} {zh : HD} {f : Nat → Int64} {h : eH} (hL3 : z.2.1 ≤ 3072) (hk6 : 6 * k + 6 ≤ z.2.1) (hv : okV (bnd t) g) (hx : okX g) (ht14 : 14 ≤ t) (ht : t < 600000) (hce : ce + 150 ≤ 601024) (hsl : sl + 12600 ≤ 7293034) (kk : ∀ (g9 : GS) (zh9 : HD) (t9 th9 ce9 sl9 : Nat) (f9 : Nat → Int64) (h9 : eH), okV (bnd t9) g9 → okX g9 → t ≤ t9 → t9 ≤ t + 1001 → ce9 ≤ ce + 150 → sl9 ≤ sl + 12600 → stars [flo o g9 zh9, rfo m g9 th9, pt a3 (.inl (1, 1, .inr (.inl f9)))] h9 → ES (PPL z) FFL mL_law 11 430 601024 7293034 1367 [some (.ref z.1), some (.ref o), some (.ref m), some (.ref a3), some (.int (nI (6 * k))), none, none] [] h9 ce9 sl9) (hL : stars [flo o g zh, rfo m g th, pt a3 (.inl (1, 1, .inr (.inl f)))] h) : ES (PPL z) FFL mL_law 11 430 601024 7293034 945 [some (.ref z.1), some (.ref o), some (.ref m), some (.ref a3), some (.int (nI (6 * k))), none, none] [] h ce sl := by
  obtain ⟨tp, an, D, ⟨fr, wv, hs⟩, ⟨v, RQ, RS, SC, er, mb⟩, ck⟩ := g
  obtain ⟨h1, h2, N1, N2⟩ := zh
  have hW : okW (bnd t) (fr, wv, hs) := hv.1.2.2.1
  have hM : okMS (bnd t) (v, RQ, RS, SC, er, mb) := hv.1.2.2.2.1
  have hv9 : v 9 < 100000000 := Nat.lt_of_le_of_lt hM.1.2.2.2.2.2.1 (show 8 * t < 100000000 by omega)
  have hv1 : v 1 ≤ 2 := hM.1.1
  have hw2 : wv 2 ≤ t := hW.2.1.2.1
  have hw8 : wv 8 ≤ t := hW.2.1.2.2.2.2.2.2.2.1
  have hck : ck ≤ t := hv.1.2.2.2.2.1
  have lhs : hs.length ≤ 64 := hW.2.2.2
  have hb1 : ∀ e ∈ hs, e.1 < 1000000 ∧ e.2 < 1000 := fun e he => by have y := hW.2.2.1 e he; have y1 : e.1 ≤ t + 2000 := y.1; exact ⟨by omega, by omega⟩
  have hb2 : ∀ e ∈ hs, e.1 < 2 ^ 30 ∧ e.2 ≤ 340 := fun e he => by have y := hW.2.2.1 e he; have y1 : e.1 ≤ t + 2000 := y.1; exact ⟨by omega, y.2⟩
  have hL : stars [flo o (tp, an, D, (fr, wv, hs), (v, RQ, RS, SC, er, mb), ck) (h1, h2, N1, N2), rfo m (tp, an, D, (fr, wv, hs), (v, RQ, RS, SC, er, mb), ck) th, pt a3 (.inl (1, 1, .inr (.inl f)))] h := hL
  refine s_aload_n 946 dL_law_945 rfl rfl ?_
  refine s_aload_n 947 dL_law_946 rfl rfl ?_
  refine s_iload 949 dL_law_947 rfl rfl ?_
  refine s_iconst 950 (v := (nI 1)) dL_law_949 rfl (by decide) ?_
  refine s_iadd 951 (v := (nI ((6 * k) + 1))) dL_law_950 rfl (nI_add (6 * k) 1) ?_
  refine l_sld 952 dL_law_951 rfl (show ((6 * k) + 1) < z.2.1 by omega) hL3 ?_
  refine s_aload_n 953 dL_law_952 rfl rfl ?_
  refine s_iload 955 dL_law_953 rfl rfl ?_
  refine s_iconst 956 (v := (nI 2)) dL_law_955 rfl (by decide) ?_
  refine s_iadd 957 (v := (nI ((6 * k) + 2))) dL_law_956 rfl (nI_add (6 * k) 2) ?_
  refine l_sld 958 dL_law_957 rfl (show ((6 * k) + 2) < z.2.1 by omega) hL3 ?_
  refine s_aload_n 959 dL_law_958 rfl rfl ?_
  refine s_iload 961 dL_law_959 rfl rfl ?_
  refine s_iconst 962 (v := (nI 3)) dL_law_961 rfl (by decide) ?_
  refine s_iadd 963 (v := (nI ((6 * k) + 3))) dL_law_962 rfl (nI_add (6 * k) 3) ?_
  refine l_sld 964 dL_law_963 rfl (show ((6 * k) + 3) < z.2.1 by omega) hL3 ?_
  refine sp_callV 967 hL [0, 1, 2] 3 rfl (by decide) (L1 := [flo o (tp, an, D, (fr, wv, hs), (v, RQ, RS, SC, er, mb), ck) (h1, h2, N1, N2)]) (L2 := [rfo m (tp, an, D, (fr, wv, hs), (v, RQ, RS, SC, er, mb), ck) th, pt a3 (.inl (1, 1, .inr (.inl f)))]) rfl flo_O 0 rfl dL_law_964 rfl cv_L_100 k_X11_settings rfl rfl (Nat.le_of_ble_eq_true rfl) ⟨by decide, by omega, by omega⟩ (fun r1 L1 h q hL => ?_)
  obtain ⟨rfl, rfl⟩ := q
  have hL : stars [flo o (sgG (tp, an, D, (fr, wv, hs), (v, RQ, RS, SC, er, mb), ck) (z.2.2 (6 * k + 1)) (z.2.2 (6 * k + 2)) (z.2.2 (6 * k + 3))) (h1, h2, N1, N2), rfo m (tp, an, D, (fr, wv, hs), (v, RQ, RS, SC, er, mb), ck) th, pt a3 (.inl (1, 1, .inr (.inl f)))] h := hL
  refine s_aload_n 968 dL_law_967 rfl rfl ?_
  refine s_aload_n 969 dL_law_968 rfl rfl ?_
  refine s_iload 971 dL_law_969 rfl rfl ?_
  refine s_iconst 972 (v := (nI 1)) dL_law_971 rfl (by decide) ?_
  refine s_iadd 973 (v := (nI ((6 * k) + 1))) dL_law_972 rfl (nI_add (6 * k) 1) ?_
  refine l_sld 974 dL_law_973 rfl (show ((6 * k) + 1) < z.2.1 by omega) hL3 ?_
  refine s_aload_n 975 dL_law_974 rfl rfl ?_
  refine s_iload 977 dL_law_975 rfl rfl ?_
  refine s_iconst 978 (v := (nI 2)) dL_law_977 rfl (by decide) ?_
  refine s_iadd 979 (v := (nI ((6 * k) + 2))) dL_law_978 rfl (nI_add (6 * k) 2) ?_
  refine l_sld 980 dL_law_979 rfl (show ((6 * k) + 2) < z.2.1 by omega) hL3 ?_
  refine s_aload_n 981 dL_law_980 rfl rfl ?_
  refine s_iload 983 dL_law_981 rfl rfl ?_
  refine s_iconst 984 (v := (nI 3)) dL_law_983 rfl (by decide) ?_
  refine s_iadd 985 (v := (nI ((6 * k) + 3))) dL_law_984 rfl (nI_add (6 * k) 3) ?_
  refine l_sld 986 dL_law_985 rfl (show ((6 * k) + 3) < z.2.1 by omega) hL3 ?_
  refine sp_callV 989 hL [1, 0, 2] 3 rfl (by decide) (L1 := [rfo m (tp, an, D, (fr, wv, hs), (v, RQ, RS, SC, er, mb), ck) th]) (L2 := [flo o (sgG (tp, an, D, (fr, wv, hs), (v, RQ, RS, SC, er, mb), ck) (z.2.2 (6 * k + 1)) (z.2.2 (6 * k + 2)) (z.2.2 (6 * k + 3))) (h1, h2, N1, N2), pt a3 (.inl (1, 1, .inr (.inl f)))]) rfl rfo_O 1 rfl dL_law_986 rfl cv_L_103 k_X15_settings rfl rfl (Nat.le_of_ble_eq_true rfl) ⟨by decide, by omega, by omega⟩ (fun r1 L1 h q hL => ?_)
  obtain ⟨rfl, rfl⟩ := q
  have hL : stars [rfo m (sgG (tp, an, D, (fr, wv, hs), (v, RQ, RS, SC, er, mb), ck) (z.2.2 (6 * k + 1)) (z.2.2 (6 * k + 2)) (z.2.2 (6 * k + 3))) 0, flo o (sgG (tp, an, D, (fr, wv, hs), (v, RQ, RS, SC, er, mb), ck) (z.2.2 (6 * k + 1)) (z.2.2 (6 * k + 2)) (z.2.2 (6 * k + 3))) (h1, h2, N1, N2), pt a3 (.inl (1, 1, .inr (.inl f)))] h := hL
  have hL : stars [flo o (sgG (tp, an, D, (fr, wv, hs), (v, RQ, RS, SC, er, mb), ck) (z.2.2 (6 * k + 1)) (z.2.2 (6 * k + 2)) (z.2.2 (6 * k + 3))) (h1, h2, N1, N2), rfo m (sgG (tp, an, D, (fr, wv, hs), (v, RQ, RS, SC, er, mb), ck) (z.2.2 (6 * k + 1)) (z.2.2 (6 * k + 2)) (z.2.2 (6 * k + 3))) 0, pt a3 (.inl (1, 1, .inr (.inl f)))] h := stars_ixn hL 3 rfl [1, 0, 2] (by decide) rfl
  refine s_icmp_eq 1367 992 dL_law_989 rfl rfl (fun c989 => ?_) (fun c989 => absurd c989 (fun z9 => z9 rfl))
  exact kk _ _ (t + 1) _ _ _ _ h (ov_sg hv) (x_sg hx) (by omega) (by omega) (by omega) (by omega) hL
set_option maxRecDepth 20000 in
set_option maxHeartbeats 2000000 in
theorem c_request {z : Nat × Nat × (Nat → Int32)} {o m a3 k t th ce sl : Nat} {g : GS} {zh : HD} {f : Nat → Int64} {h : eH} (hL3 : z.2.1 ≤ 3072) (hk6 : 6 * k + 6 ≤ z.2.1) (hv : okV (bnd t) g) (hx : okX g) (ht14 : 14 ≤ t) (ht : t < 600000) (hce : ce + 150 ≤ 601024) (hsl : sl + 12600 ≤ 7293034) (kk : ∀ (g9 : GS) (zh9 : HD) (t9 th9 ce9 sl9 : Nat) (f9 : Nat → Int64) (h9 : eH), okV (bnd t9) g9 → okX g9 → t ≤ t9 → t9 ≤ t + 1001 → ce9 ≤ ce + 150 → sl9 ≤ sl + 12600 → stars [flo o g9 zh9, rfo m g9 th9, pt a3 (.inl (1, 1, .inr (.inl f9)))] h9 → ES (PPL z) FFL mL_law 11 430 601024 7293034 1367 [some (.ref z.1), some (.ref o), some (.ref m), some (.ref a3), some (.int (nI (6 * k))), none, none] [] h9 ce9 sl9) (hL : stars [flo o g zh, rfo m g th, pt a3 (.inl (1, 1, .inr (.inl f)))] h) : ES (PPL z) FFL mL_law 11 430 601024 7293034 994 [some (.ref z.1), some (.ref o), some (.ref m), some (.ref a3), some (.int (nI (6 * k))), none, none] [] h ce sl := by
  obtain ⟨tp, an, D, ⟨fr, wv, hs⟩, ⟨v, RQ, RS, SC, er, mb⟩, ck⟩ := g
  obtain ⟨h1, h2, N1, N2⟩ := zh
  have hW : okW (bnd t) (fr, wv, hs) := hv.1.2.2.1
  have hM : okMS (bnd t) (v, RQ, RS, SC, er, mb) := hv.1.2.2.2.1
  have hv9 : v 9 < 100000000 := Nat.lt_of_le_of_lt hM.1.2.2.2.2.2.1 (show 8 * t < 100000000 by omega)
  have hv1 : v 1 ≤ 2 := hM.1.1
  have hw2 : wv 2 ≤ t := hW.2.1.2.1
  have hw8 : wv 8 ≤ t := hW.2.1.2.2.2.2.2.2.2.1
  have hck : ck ≤ t := hv.1.2.2.2.2.1
  have lhs : hs.length ≤ 64 := hW.2.2.2
  have hb1 : ∀ e ∈ hs, e.1 < 1000000 ∧ e.2 < 1000 := fun e he => by have y := hW.2.2.1 e he; have y1 : e.1 ≤ t + 2000 := y.1; exact ⟨by omega, by omega⟩
  have hb2 : ∀ e ∈ hs, e.1 < 2 ^ 30 ∧ e.2 ≤ 340 := fun e he => by have y := hW.2.2.1 e he; have y1 : e.1 ≤ t + 2000 := y.1; exact ⟨by omega, y.2⟩
  have hL : stars [flo o (tp, an, D, (fr, wv, hs), (v, RQ, RS, SC, er, mb), ck) (h1, h2, N1, N2), rfo m (tp, an, D, (fr, wv, hs), (v, RQ, RS, SC, er, mb), ck) th, pt a3 (.inl (1, 1, .inr (.inl f)))] h := hL
  refine s_aload_n 995 dL_law_994 rfl rfl ?_
  refine s_aload_n 996 dL_law_995 rfl rfl ?_
  refine s_iload 998 dL_law_996 rfl rfl ?_
  refine s_iconst 999 (v := (nI 1)) dL_law_998 rfl (by decide) ?_
  refine s_iadd 1000 (v := (nI ((6 * k) + 1))) dL_law_999 rfl (nI_add (6 * k) 1) ?_
  refine l_sld 1001 dL_law_1000 rfl (show ((6 * k) + 1) < z.2.1 by omega) hL3 ?_
  refine sp_callV 1004 hL [0, 1, 2] 3 rfl (by decide) (L1 := [flo o (tp, an, D, (fr, wv, hs), (v, RQ, RS, SC, er, mb), ck) (h1, h2, N1, N2)]) (L2 := [rfo m (tp, an, D, (fr, wv, hs), (v, RQ, RS, SC, er, mb), ck) th, pt a3 (.inl (1, 1, .inr (.inl f)))]) rfl flo_O 0 rfl dL_law_1001 rfl cv_L_104 (k_X11_request hv9) rfl rfl (Nat.le_of_ble_eq_true rfl) ⟨by decide, by omega, by omega⟩ (fun r1 L1 h q hL => ?_)
  obtain ⟨rfl, rfl⟩ := q
  have hL : stars [flo o (rqG (tp, an, D, (fr, wv, hs), (v, RQ, RS, SC, er, mb), ck) (z.2.2 (6 * k + 1))) (rqH (tp, an, D, (fr, wv, hs), (v, RQ, RS, SC, er, mb), ck) (z.2.2 (6 * k + 1)) (h1, h2, N1, N2)), rfo m (tp, an, D, (fr, wv, hs), (v, RQ, RS, SC, er, mb), ck) th, pt a3 (.inl (1, 1, .inr (.inl f)))] h := hL
  refine s_aload_n 1005 dL_law_1004 rfl rfl ?_
  refine s_aload_n 1006 dL_law_1005 rfl rfl ?_
  refine s_iload 1008 dL_law_1006 rfl rfl ?_
  refine s_iconst 1009 (v := (nI 1)) dL_law_1008 rfl (by decide) ?_
  refine s_iadd 1010 (v := (nI ((6 * k) + 1))) dL_law_1009 rfl (nI_add (6 * k) 1) ?_
  refine l_sld 1011 dL_law_1010 rfl (show ((6 * k) + 1) < z.2.1 by omega) hL3 ?_
  refine sp_callV 1014 hL [1, 0, 2] 3 rfl (by decide) (L1 := [rfo m (tp, an, D, (fr, wv, hs), (v, RQ, RS, SC, er, mb), ck) th]) (L2 := [flo o (rqG (tp, an, D, (fr, wv, hs), (v, RQ, RS, SC, er, mb), ck) (z.2.2 (6 * k + 1))) (rqH (tp, an, D, (fr, wv, hs), (v, RQ, RS, SC, er, mb), ck) (z.2.2 (6 * k + 1)) (h1, h2, N1, N2)), pt a3 (.inl (1, 1, .inr (.inl f)))]) rfl rfo_O 1 rfl dL_law_1011 rfl cv_L_107 k_X15_request rfl rfl (Nat.le_of_ble_eq_true rfl) ⟨by decide, by omega, by omega⟩ (fun r1 L1 h q hL => ?_)
  obtain ⟨rfl, rfl⟩ := q
  have hL : stars [rfo m (rqG (tp, an, D, (fr, wv, hs), (v, RQ, RS, SC, er, mb), ck) (z.2.2 (6 * k + 1))) 0, flo o (rqG (tp, an, D, (fr, wv, hs), (v, RQ, RS, SC, er, mb), ck) (z.2.2 (6 * k + 1))) (rqH (tp, an, D, (fr, wv, hs), (v, RQ, RS, SC, er, mb), ck) (z.2.2 (6 * k + 1)) (h1, h2, N1, N2)), pt a3 (.inl (1, 1, .inr (.inl f)))] h := hL
  have hL : stars [flo o (rqG (tp, an, D, (fr, wv, hs), (v, RQ, RS, SC, er, mb), ck) (z.2.2 (6 * k + 1))) (rqH (tp, an, D, (fr, wv, hs), (v, RQ, RS, SC, er, mb), ck) (z.2.2 (6 * k + 1)) (h1, h2, N1, N2)), rfo m (rqG (tp, an, D, (fr, wv, hs), (v, RQ, RS, SC, er, mb), ck) (z.2.2 (6 * k + 1))) 0, pt a3 (.inl (1, 1, .inr (.inl f)))] h := stars_ixn hL 3 rfl [1, 0, 2] (by decide) rfl
  refine s_icmp_eq 1367 1017 dL_law_1014 rfl rfl (fun c1014 => ?_) (fun c1014 => absurd c1014 (fun z9 => z9 rfl))
  exact kk _ _ (t + 1) _ _ _ _ h (ov_rq hv) (x_rq hx) (by omega) (by omega) (by omega) (by omega) hL
set_option maxRecDepth 20000 in
set_option maxHeartbeats 2000000 in
theorem c_scan {z : Nat × Nat × (Nat → Int32)} {o m a3 k t th ce sl : Nat} {g : GS} {zh : HD} {f : Nat → Int64} {h : eH} (hL3 : z.2.1 ≤ 3072) (hk6 : 6 * k + 6 ≤ z.2.1) (hv : okV (bnd t) g) (hx : okX g) (ht14 : 14 ≤ t) (ht : t < 600000) (hce : ce + 150 ≤ 601024) (hsl : sl + 12600 ≤ 7293034) (kk : ∀ (g9 : GS) (zh9 : HD) (t9 th9 ce9 sl9 : Nat) (f9 : Nat → Int64) (h9 : eH), okV (bnd t9) g9 → okX g9 → t ≤ t9 → t9 ≤ t + 1001 → ce9 ≤ ce + 150 → sl9 ≤ sl + 12600 → stars [flo o g9 zh9, rfo m g9 th9, pt a3 (.inl (1, 1, .inr (.inl f9)))] h9 → ES (PPL z) FFL mL_law 11 430 601024 7293034 1367 [some (.ref z.1), some (.ref o), some (.ref m), some (.ref a3), some (.int (nI (6 * k))), none, none] [] h9 ce9 sl9) (hL : stars [flo o g zh, rfo m g th, pt a3 (.inl (1, 1, .inr (.inl f)))] h) : ES (PPL z) FFL mL_law 11 430 601024 7293034 1019 [some (.ref z.1), some (.ref o), some (.ref m), some (.ref a3), some (.int (nI (6 * k))), none, none] [] h ce sl := by
  obtain ⟨tp, an, D, ⟨fr, wv, hs⟩, ⟨v, RQ, RS, SC, er, mb⟩, ck⟩ := g
  obtain ⟨h1, h2, N1, N2⟩ := zh
  have hW : okW (bnd t) (fr, wv, hs) := hv.1.2.2.1
  have hM : okMS (bnd t) (v, RQ, RS, SC, er, mb) := hv.1.2.2.2.1
  have hv9 : v 9 < 100000000 := Nat.lt_of_le_of_lt hM.1.2.2.2.2.2.1 (show 8 * t < 100000000 by omega)
  have hv1 : v 1 ≤ 2 := hM.1.1
  have hw2 : wv 2 ≤ t := hW.2.1.2.1
  have hw8 : wv 8 ≤ t := hW.2.1.2.2.2.2.2.2.2.1
  have hck : ck ≤ t := hv.1.2.2.2.2.1
  have lhs : hs.length ≤ 64 := hW.2.2.2
  have hb1 : ∀ e ∈ hs, e.1 < 1000000 ∧ e.2 < 1000 := fun e he => by have y := hW.2.2.1 e he; have y1 : e.1 ≤ t + 2000 := y.1; exact ⟨by omega, by omega⟩
  have hb2 : ∀ e ∈ hs, e.1 < 2 ^ 30 ∧ e.2 ≤ 340 := fun e he => by have y := hW.2.2.1 e he; have y1 : e.1 ≤ t + 2000 := y.1; exact ⟨by omega, y.2⟩
  have hL : stars [flo o (tp, an, D, (fr, wv, hs), (v, RQ, RS, SC, er, mb), ck) (h1, h2, N1, N2), rfo m (tp, an, D, (fr, wv, hs), (v, RQ, RS, SC, er, mb), ck) th, pt a3 (.inl (1, 1, .inr (.inl f)))] h := hL
  refine s_aload_n 1020 dL_law_1019 rfl rfl ?_
  refine s_aload_n 1021 dL_law_1020 rfl rfl ?_
  refine s_iload 1023 dL_law_1021 rfl rfl ?_
  refine s_iconst 1024 (v := (nI 1)) dL_law_1023 rfl (by decide) ?_
  refine s_iadd 1025 (v := (nI ((6 * k) + 1))) dL_law_1024 rfl (nI_add (6 * k) 1) ?_
  refine l_sld 1026 dL_law_1025 rfl (show ((6 * k) + 1) < z.2.1 by omega) hL3 ?_
  refine s_aload_n 1027 dL_law_1026 rfl rfl ?_
  refine s_iload 1029 dL_law_1027 rfl rfl ?_
  refine s_iconst 1030 (v := (nI 2)) dL_law_1029 rfl (by decide) ?_
  refine s_iadd 1031 (v := (nI ((6 * k) + 2))) dL_law_1030 rfl (nI_add (6 * k) 2) ?_
  refine l_sld 1032 dL_law_1031 rfl (show ((6 * k) + 2) < z.2.1 by omega) hL3 ?_
  refine sp_callV 1035 hL [0, 1, 2] 3 rfl (by decide) (L1 := [flo o (tp, an, D, (fr, wv, hs), (v, RQ, RS, SC, er, mb), ck) (h1, h2, N1, N2)]) (L2 := [rfo m (tp, an, D, (fr, wv, hs), (v, RQ, RS, SC, er, mb), ck) th, pt a3 (.inl (1, 1, .inr (.inl f)))]) rfl flo_O 0 rfl dL_law_1032 rfl cv_L_108 k_X11_scan rfl rfl (Nat.le_of_ble_eq_true rfl) ⟨by decide, by omega, by omega⟩ (fun r1 L1 h q hL => ?_)
  obtain ⟨rfl, rfl⟩ := q
  have hL : stars [flo o (snG (tp, an, D, (fr, wv, hs), (v, RQ, RS, SC, er, mb), ck) (z.2.2 (6 * k + 1)) (z.2.2 (6 * k + 2))) (h1, h2, N1, N2), rfo m (tp, an, D, (fr, wv, hs), (v, RQ, RS, SC, er, mb), ck) th, pt a3 (.inl (1, 1, .inr (.inl f)))] h := hL
  refine s_aload_n 1036 dL_law_1035 rfl rfl ?_
  refine s_aload_n 1037 dL_law_1036 rfl rfl ?_
  refine s_iload 1039 dL_law_1037 rfl rfl ?_
  refine s_iconst 1040 (v := (nI 1)) dL_law_1039 rfl (by decide) ?_
  refine s_iadd 1041 (v := (nI ((6 * k) + 1))) dL_law_1040 rfl (nI_add (6 * k) 1) ?_
  refine l_sld 1042 dL_law_1041 rfl (show ((6 * k) + 1) < z.2.1 by omega) hL3 ?_
  refine s_aload_n 1043 dL_law_1042 rfl rfl ?_
  refine s_iload 1045 dL_law_1043 rfl rfl ?_
  refine s_iconst 1046 (v := (nI 2)) dL_law_1045 rfl (by decide) ?_
  refine s_iadd 1047 (v := (nI ((6 * k) + 2))) dL_law_1046 rfl (nI_add (6 * k) 2) ?_
  refine l_sld 1048 dL_law_1047 rfl (show ((6 * k) + 2) < z.2.1 by omega) hL3 ?_
  refine sp_callV 1051 hL [1, 0, 2] 3 rfl (by decide) (L1 := [rfo m (tp, an, D, (fr, wv, hs), (v, RQ, RS, SC, er, mb), ck) th]) (L2 := [flo o (snG (tp, an, D, (fr, wv, hs), (v, RQ, RS, SC, er, mb), ck) (z.2.2 (6 * k + 1)) (z.2.2 (6 * k + 2))) (h1, h2, N1, N2), pt a3 (.inl (1, 1, .inr (.inl f)))]) rfl rfo_O 1 rfl dL_law_1048 rfl cv_L_111 (k_X15_scan_ (by omega)) rfl rfl (Nat.le_of_ble_eq_true rfl) ⟨by decide, by omega, by omega⟩ (fun r1 L1 h q hL => ?_)
  obtain ⟨rfl, rfl⟩ := q
  have hL : stars [rfo m (snG (tp, an, D, (fr, wv, hs), (v, RQ, RS, SC, er, mb), ck) (z.2.2 (6 * k + 1)) (z.2.2 (6 * k + 2))) 0, flo o (snG (tp, an, D, (fr, wv, hs), (v, RQ, RS, SC, er, mb), ck) (z.2.2 (6 * k + 1)) (z.2.2 (6 * k + 2))) (h1, h2, N1, N2), pt a3 (.inl (1, 1, .inr (.inl f)))] h := hL
  have hL : stars [flo o (snG (tp, an, D, (fr, wv, hs), (v, RQ, RS, SC, er, mb), ck) (z.2.2 (6 * k + 1)) (z.2.2 (6 * k + 2))) (h1, h2, N1, N2), rfo m (snG (tp, an, D, (fr, wv, hs), (v, RQ, RS, SC, er, mb), ck) (z.2.2 (6 * k + 1)) (z.2.2 (6 * k + 2))) 0, pt a3 (.inl (1, 1, .inr (.inl f)))] h := stars_ixn hL 3 rfl [1, 0, 2] (by decide) rfl
  refine s_icmp_eq 1367 1054 dL_law_1051 rfl rfl (fun c1051 => ?_) (fun c1051 => absurd c1051 (fun z9 => z9 rfl))
  exact kk _ _ (t + 1) _ _ _ _ h (ov_sn hv) (x_sn hx) (by omega) (by omega) (by omega) (by omega) hL
set_option maxRecDepth 20000 in
set_option maxHeartbeats 2000000 in
theorem c_harm {z : Nat × Nat × (Nat → Int32)} {o m a3 k t th ce sl : Nat} {g : GS} {zh : HD} {f : Nat → Int64} {h : eH} (hL3 : z.2.1 ≤ 3072) (hk6 : 6 * k + 6 ≤ z.2.1) (hv : okV (bnd t) g) (hx : okX g) (ht14 : 14 ≤ t) (ht : t < 600000) (hce : ce + 150 ≤ 601024) (hsl : sl + 12600 ≤ 7293034) (kk : ∀ (g9 : GS) (zh9 : HD) (t9 th9 ce9 sl9 : Nat) (f9 : Nat → Int64) (h9 : eH), okV (bnd t9) g9 → okX g9 → t ≤ t9 → t9 ≤ t + 1001 → ce9 ≤ ce + 150 → sl9 ≤ sl + 12600 → stars [flo o g9 zh9, rfo m g9 th9, pt a3 (.inl (1, 1, .inr (.inl f9)))] h9 → ES (PPL z) FFL mL_law 11 430 601024 7293034 1367 [some (.ref z.1), some (.ref o), some (.ref m), some (.ref a3), some (.int (nI (6 * k))), none, none] [] h9 ce9 sl9) (hL : stars [flo o g zh, rfo m g th, pt a3 (.inl (1, 1, .inr (.inl f)))] h) : ES (PPL z) FFL mL_law 11 430 601024 7293034 1056 [some (.ref z.1), some (.ref o), some (.ref m), some (.ref a3), some (.int (nI (6 * k))), none, none] [] h ce sl := by
  obtain ⟨tp, an, D, ⟨fr, wv, hs⟩, ⟨v, RQ, RS, SC, er, mb⟩, ck⟩ := g
  obtain ⟨h1, h2, N1, N2⟩ := zh
  have hW : okW (bnd t) (fr, wv, hs) := hv.1.2.2.1
  have hM : okMS (bnd t) (v, RQ, RS, SC, er, mb) := hv.1.2.2.2.1
  have hv9 : v 9 < 100000000 := Nat.lt_of_le_of_lt hM.1.2.2.2.2.2.1 (show 8 * t < 100000000 by omega)
  have hv1 : v 1 ≤ 2 := hM.1.1
  have hw2 : wv 2 ≤ t := hW.2.1.2.1
  have hw8 : wv 8 ≤ t := hW.2.1.2.2.2.2.2.2.2.1
  have hck : ck ≤ t := hv.1.2.2.2.2.1
  have lhs : hs.length ≤ 64 := hW.2.2.2
  have hb1 : ∀ e ∈ hs, e.1 < 1000000 ∧ e.2 < 1000 := fun e he => by have y := hW.2.2.1 e he; have y1 : e.1 ≤ t + 2000 := y.1; exact ⟨by omega, by omega⟩
  have hb2 : ∀ e ∈ hs, e.1 < 2 ^ 30 ∧ e.2 ≤ 340 := fun e he => by have y := hW.2.2.1 e he; have y1 : e.1 ≤ t + 2000 := y.1; exact ⟨by omega, y.2⟩
  have hL : stars [flo o (tp, an, D, (fr, wv, hs), (v, RQ, RS, SC, er, mb), ck) (h1, h2, N1, N2), rfo m (tp, an, D, (fr, wv, hs), (v, RQ, RS, SC, er, mb), ck) th, pt a3 (.inl (1, 1, .inr (.inl f)))] h := hL
  refine s_aload_n 1057 dL_law_1056 rfl rfl ?_
  refine s_aload_n 1058 dL_law_1057 rfl rfl ?_
  refine s_iload 1060 dL_law_1058 rfl rfl ?_
  refine s_iconst 1061 (v := (nI 1)) dL_law_1060 rfl (by decide) ?_
  refine s_iadd 1062 (v := (nI ((6 * k) + 1))) dL_law_1061 rfl (nI_add (6 * k) 1) ?_
  refine l_sld 1063 dL_law_1062 rfl (show ((6 * k) + 1) < z.2.1 by omega) hL3 ?_
  refine s_aload_n 1064 dL_law_1063 rfl rfl ?_
  refine s_iload 1066 dL_law_1064 rfl rfl ?_
  refine s_iconst 1067 (v := (nI 2)) dL_law_1066 rfl (by decide) ?_
  refine s_iadd 1068 (v := (nI ((6 * k) + 2))) dL_law_1067 rfl (nI_add (6 * k) 2) ?_
  refine l_sld 1069 dL_law_1068 rfl (show ((6 * k) + 2) < z.2.1 by omega) hL3 ?_
  refine sp_callV 1072 hL [0, 1, 2] 3 rfl (by decide) (L1 := [flo o (tp, an, D, (fr, wv, hs), (v, RQ, RS, SC, er, mb), ck) (h1, h2, N1, N2)]) (L2 := [rfo m (tp, an, D, (fr, wv, hs), (v, RQ, RS, SC, er, mb), ck) th, pt a3 (.inl (1, 1, .inr (.inl f)))]) rfl flo_O 0 rfl dL_law_1069 rfl cv_L_112 (k_X11_harm hb1 (by omega)) rfl rfl (Nat.le_of_ble_eq_true rfl) ⟨by decide, by omega, by omega⟩ (fun r1 L1 h q hL => ?_)
  obtain ⟨rfl, rfl⟩ := q
  have hL : stars [flo o (hmG (tp, an, D, (fr, wv, hs), (v, RQ, RS, SC, er, mb), ck) (z.2.2 (6 * k + 1)) (z.2.2 (6 * k + 2))) (h1, h2, N1, N2), rfo m (tp, an, D, (fr, wv, hs), (v, RQ, RS, SC, er, mb), ck) th, pt a3 (.inl (1, 1, .inr (.inl f)))] h := hL
  refine s_aload_n 1073 dL_law_1072 rfl rfl ?_
  refine s_aload_n 1074 dL_law_1073 rfl rfl ?_
  refine s_iload 1076 dL_law_1074 rfl rfl ?_
  refine s_iconst 1077 (v := (nI 1)) dL_law_1076 rfl (by decide) ?_
  refine s_iadd 1078 (v := (nI ((6 * k) + 1))) dL_law_1077 rfl (nI_add (6 * k) 1) ?_
  refine l_sld 1079 dL_law_1078 rfl (show ((6 * k) + 1) < z.2.1 by omega) hL3 ?_
  refine s_aload_n 1080 dL_law_1079 rfl rfl ?_
  refine s_iload 1082 dL_law_1080 rfl rfl ?_
  refine s_iconst 1083 (v := (nI 2)) dL_law_1082 rfl (by decide) ?_
  refine s_iadd 1084 (v := (nI ((6 * k) + 2))) dL_law_1083 rfl (nI_add (6 * k) 2) ?_
  refine l_sld 1085 dL_law_1084 rfl (show ((6 * k) + 2) < z.2.1 by omega) hL3 ?_
  refine sp_callV 1088 hL [1, 0, 2] 3 rfl (by decide) (L1 := [rfo m (tp, an, D, (fr, wv, hs), (v, RQ, RS, SC, er, mb), ck) th]) (L2 := [flo o (hmG (tp, an, D, (fr, wv, hs), (v, RQ, RS, SC, er, mb), ck) (z.2.2 (6 * k + 1)) (z.2.2 (6 * k + 2))) (h1, h2, N1, N2), pt a3 (.inl (1, 1, .inr (.inl f)))]) rfl rfo_O 1 rfl dL_law_1085 rfl cv_L_115 (k_X15_harm lhs hb2 (by omega)) rfl rfl (Nat.le_of_ble_eq_true rfl) ⟨by decide, by omega, by omega⟩ (fun r1 L1 h q hL => ?_)
  obtain ⟨rfl, rfl⟩ := q
  have hL : stars [rfo m (hmG (tp, an, D, (fr, wv, hs), (v, RQ, RS, SC, er, mb), ck) (z.2.2 (6 * k + 1)) (z.2.2 (6 * k + 2))) 0, flo o (hmG (tp, an, D, (fr, wv, hs), (v, RQ, RS, SC, er, mb), ck) (z.2.2 (6 * k + 1)) (z.2.2 (6 * k + 2))) (h1, h2, N1, N2), pt a3 (.inl (1, 1, .inr (.inl f)))] h := hL
  have hL : stars [flo o (hmG (tp, an, D, (fr, wv, hs), (v, RQ, RS, SC, er, mb), ck) (z.2.2 (6 * k + 1)) (z.2.2 (6 * k + 2))) (h1, h2, N1, N2), rfo m (hmG (tp, an, D, (fr, wv, hs), (v, RQ, RS, SC, er, mb), ck) (z.2.2 (6 * k + 1)) (z.2.2 (6 * k + 2))) 0, pt a3 (.inl (1, 1, .inr (.inl f)))] h := stars_ixn hL 3 rfl [1, 0, 2] (by decide) rfl
  refine s_icmp_eq 1367 1091 dL_law_1088 rfl rfl (fun c1088 => ?_) (fun c1088 => absurd c1088 (fun z9 => z9 rfl))
  exact kk _ _ (t + 1) _ _ _ _ h (ov_hm hv) (x_hm hx) (by omega) (by omega) (by omega) (by omega) hL
set_option maxRecDepth 20000 in
set_option maxHeartbeats 2000000 in
theorem c_result {z : Nat × Nat × (Nat → Int32)} {o m a3 k t th ce sl : Nat} {g : GS} {zh : HD} {f : Nat → Int64} {h : eH} (hL3 : z.2.1 ≤ 3072) (hk6 : 6 * k + 6 ≤ z.2.1) (hv : okV (bnd t) g) (hx : okX g) (ht14 : 14 ≤ t) (ht : t < 600000) (hce : ce + 150 ≤ 601024) (hsl : sl + 12600 ≤ 7293034) (kk : ∀ (g9 : GS) (zh9 : HD) (t9 th9 ce9 sl9 : Nat) (f9 : Nat → Int64) (h9 : eH), okV (bnd t9) g9 → okX g9 → t ≤ t9 → t9 ≤ t + 1001 → ce9 ≤ ce + 150 → sl9 ≤ sl + 12600 → stars [flo o g9 zh9, rfo m g9 th9, pt a3 (.inl (1, 1, .inr (.inl f9)))] h9 → ES (PPL z) FFL mL_law 11 430 601024 7293034 1367 [some (.ref z.1), some (.ref o), some (.ref m), some (.ref a3), some (.int (nI (6 * k))), none, none] [] h9 ce9 sl9) (hL : stars [flo o g zh, rfo m g th, pt a3 (.inl (1, 1, .inr (.inl f)))] h) : ES (PPL z) FFL mL_law 11 430 601024 7293034 1149 [some (.ref z.1), some (.ref o), some (.ref m), some (.ref a3), some (.int (nI (6 * k))), none, none] [] h ce sl := by
  obtain ⟨tp, an, D, ⟨fr, wv, hs⟩, ⟨v, RQ, RS, SC, er, mb⟩, ck⟩ := g
  obtain ⟨h1, h2, N1, N2⟩ := zh
  have hW : okW (bnd t) (fr, wv, hs) := hv.1.2.2.1
  have hM : okMS (bnd t) (v, RQ, RS, SC, er, mb) := hv.1.2.2.2.1
  have hv9 : v 9 < 100000000 := Nat.lt_of_le_of_lt hM.1.2.2.2.2.2.1 (show 8 * t < 100000000 by omega)
  have hv1 : v 1 ≤ 2 := hM.1.1
  have hw2 : wv 2 ≤ t := hW.2.1.2.1
  have hw8 : wv 8 ≤ t := hW.2.1.2.2.2.2.2.2.2.1
  have hck : ck ≤ t := hv.1.2.2.2.2.1
  have lhs : hs.length ≤ 64 := hW.2.2.2
  have hb1 : ∀ e ∈ hs, e.1 < 1000000 ∧ e.2 < 1000 := fun e he => by have y := hW.2.2.1 e he; have y1 : e.1 ≤ t + 2000 := y.1; exact ⟨by omega, by omega⟩
  have hb2 : ∀ e ∈ hs, e.1 < 2 ^ 30 ∧ e.2 ≤ 340 := fun e he => by have y := hW.2.2.1 e he; have y1 : e.1 ≤ t + 2000 := y.1; exact ⟨by omega, y.2⟩
  have hL : stars [flo o (tp, an, D, (fr, wv, hs), (v, RQ, RS, SC, er, mb), ck) (h1, h2, N1, N2), rfo m (tp, an, D, (fr, wv, hs), (v, RQ, RS, SC, er, mb), ck) th, pt a3 (.inl (1, 1, .inr (.inl f)))] h := hL
  refine s_aload_n 1150 dL_law_1149 rfl rfl ?_
  refine s_aload_n 1151 dL_law_1150 rfl rfl ?_
  refine s_iload 1153 dL_law_1151 rfl rfl ?_
  refine s_iconst 1154 (v := (nI 1)) dL_law_1153 rfl (by decide) ?_
  refine s_iadd 1155 (v := (nI ((6 * k) + 1))) dL_law_1154 rfl (nI_add (6 * k) 1) ?_
  refine l_sld 1156 dL_law_1155 rfl (show ((6 * k) + 1) < z.2.1 by omega) hL3 ?_
  refine sp_callV 1159 hL [0, 1, 2] 3 rfl (by decide) (L1 := [flo o (tp, an, D, (fr, wv, hs), (v, RQ, RS, SC, er, mb), ck) (h1, h2, N1, N2)]) (L2 := [rfo m (tp, an, D, (fr, wv, hs), (v, RQ, RS, SC, er, mb), ck) th, pt a3 (.inl (1, 1, .inr (.inl f)))]) rfl flo_O 0 rfl dL_law_1156 rfl cv_L_125 k_X11_result rfl rfl (Nat.le_of_ble_eq_true rfl) ⟨by decide, by omega, by omega⟩ (fun r1 L1 h q hL => ?_)
  obtain ⟨rfl, rfl⟩ := q
  have hL : stars [flo o (tp, an, D, (fr, wv, hs), (v, RQ, RS, SC, er, mb), ck) (h1, h2, N1, N2), rfo m (tp, an, D, (fr, wv, hs), (v, RQ, RS, SC, er, mb), ck) th, pt a3 (.inl (1, 1, .inr (.inl f)))] h := hL
  refine s_aload_n 1160 dL_law_1159 rfl rfl ?_
  refine s_aload_n 1161 dL_law_1160 rfl rfl ?_
  refine s_iload 1163 dL_law_1161 rfl rfl ?_
  refine s_iconst 1164 (v := (nI 1)) dL_law_1163 rfl (by decide) ?_
  refine s_iadd 1165 (v := (nI ((6 * k) + 1))) dL_law_1164 rfl (nI_add (6 * k) 1) ?_
  refine l_sld 1166 dL_law_1165 rfl (show ((6 * k) + 1) < z.2.1 by omega) hL3 ?_
  refine sp_callV 1169 hL [1, 0, 2] 3 rfl (by decide) (L1 := [rfo m (tp, an, D, (fr, wv, hs), (v, RQ, RS, SC, er, mb), ck) th]) (L2 := [flo o (tp, an, D, (fr, wv, hs), (v, RQ, RS, SC, er, mb), ck) (h1, h2, N1, N2), pt a3 (.inl (1, 1, .inr (.inl f)))]) rfl rfo_O 1 rfl dL_law_1166 rfl cv_L_128 k_X15_result rfl rfl (Nat.le_of_ble_eq_true rfl) ⟨by decide, by omega, by omega⟩ (fun r1 L1 h q hL => ?_)
  obtain ⟨rfl, rfl⟩ := q
  have hL : stars [rfo m (tp, an, D, (fr, wv, hs), (v, RQ, RS, SC, er, mb), ck) 0, flo o (tp, an, D, (fr, wv, hs), (v, RQ, RS, SC, er, mb), ck) (h1, h2, N1, N2), pt a3 (.inl (1, 1, .inr (.inl f)))] h := hL
  have hL : stars [flo o (tp, an, D, (fr, wv, hs), (v, RQ, RS, SC, er, mb), ck) (h1, h2, N1, N2), rfo m (tp, an, D, (fr, wv, hs), (v, RQ, RS, SC, er, mb), ck) 0, pt a3 (.inl (1, 1, .inr (.inl f)))] h := stars_ixn hL 3 rfl [1, 0, 2] (by decide) rfl
  refine s_icmp_eq 1367 1172 dL_law_1169 rfl rfl (fun c1169 => ?_) (fun c1169 => absurd c1169 (fun z9 => z9 rfl))
  exact kk _ _ (t + 1) _ _ _ _ h (ov_up hv) hx (by omega) (by omega) (by omega) (by omega) hL
set_option maxRecDepth 20000 in
set_option maxHeartbeats 2000000 in
theorem c_take {z : Nat × Nat × (Nat → Int32)} {o m a3 k t th ce sl : Nat} {g : GS} {zh : HD} {f : Nat → Int64} {h : eH} (hL3 : z.2.1 ≤ 3072) (hk6 : 6 * k + 6 ≤ z.2.1) (hv : okV (bnd t) g) (hx : okX g) (ht14 : 14 ≤ t) (ht : t < 600000) (hce : ce + 150 ≤ 601024) (hsl : sl + 12600 ≤ 7293034) (kk : ∀ (g9 : GS) (zh9 : HD) (t9 th9 ce9 sl9 : Nat) (f9 : Nat → Int64) (h9 : eH), okV (bnd t9) g9 → okX g9 → t ≤ t9 → t9 ≤ t + 1001 → ce9 ≤ ce + 150 → sl9 ≤ sl + 12600 → stars [flo o g9 zh9, rfo m g9 th9, pt a3 (.inl (1, 1, .inr (.inl f9)))] h9 → ES (PPL z) FFL mL_law 11 430 601024 7293034 1367 [some (.ref z.1), some (.ref o), some (.ref m), some (.ref a3), some (.int (nI (6 * k))), none, none] [] h9 ce9 sl9) (hL : stars [flo o g zh, rfo m g th, pt a3 (.inl (1, 1, .inr (.inl f)))] h) : ES (PPL z) FFL mL_law 11 430 601024 7293034 1230 [some (.ref z.1), some (.ref o), some (.ref m), some (.ref a3), some (.int (nI (6 * k))), none, none] [] h ce sl := by
  obtain ⟨tp, an, D, ⟨fr, wv, hs⟩, ⟨v, RQ, RS, SC, er, mb⟩, ck⟩ := g
  obtain ⟨h1, h2, N1, N2⟩ := zh
  have hW : okW (bnd t) (fr, wv, hs) := hv.1.2.2.1
  have hM : okMS (bnd t) (v, RQ, RS, SC, er, mb) := hv.1.2.2.2.1
  have hv9 : v 9 < 100000000 := Nat.lt_of_le_of_lt hM.1.2.2.2.2.2.1 (show 8 * t < 100000000 by omega)
  have hv1 : v 1 ≤ 2 := hM.1.1
  have hw2 : wv 2 ≤ t := hW.2.1.2.1
  have hw8 : wv 8 ≤ t := hW.2.1.2.2.2.2.2.2.2.1
  have hck : ck ≤ t := hv.1.2.2.2.2.1
  have lhs : hs.length ≤ 64 := hW.2.2.2
  have hb1 : ∀ e ∈ hs, e.1 < 1000000 ∧ e.2 < 1000 := fun e he => by have y := hW.2.2.1 e he; have y1 : e.1 ≤ t + 2000 := y.1; exact ⟨by omega, by omega⟩
  have hb2 : ∀ e ∈ hs, e.1 < 2 ^ 30 ∧ e.2 ≤ 340 := fun e he => by have y := hW.2.2.1 e he; have y1 : e.1 ≤ t + 2000 := y.1; exact ⟨by omega, y.2⟩
  have hL : stars [flo o (tp, an, D, (fr, wv, hs), (v, RQ, RS, SC, er, mb), ck) (h1, h2, N1, N2), rfo m (tp, an, D, (fr, wv, hs), (v, RQ, RS, SC, er, mb), ck) th, pt a3 (.inl (1, 1, .inr (.inl f)))] h := hL
  refine s_aload_n 1231 dL_law_1230 rfl rfl ?_
  refine sp_callV 1234 hL [0, 1, 2] 3 rfl (by decide) (L1 := [flo o (tp, an, D, (fr, wv, hs), (v, RQ, RS, SC, er, mb), ck) (h1, h2, N1, N2)]) (L2 := [rfo m (tp, an, D, (fr, wv, hs), (v, RQ, RS, SC, er, mb), ck) th, pt a3 (.inl (1, 1, .inr (.inl f)))]) rfl flo_O 0 rfl dL_law_1231 rfl cv_L_132 k_X11_take rfl rfl (Nat.le_of_ble_eq_true rfl) ⟨by decide, by omega, by omega⟩ (fun r1 L1 h q hL => ?_)
  obtain ⟨rfl, rfl⟩ := q
  have hL : stars [flo o (tkG (tp, an, D, (fr, wv, hs), (v, RQ, RS, SC, er, mb), ck)) (tkH (tp, an, D, (fr, wv, hs), (v, RQ, RS, SC, er, mb), ck) (h1, h2, N1, N2)), rfo m (tp, an, D, (fr, wv, hs), (v, RQ, RS, SC, er, mb), ck) th, pt a3 (.inl (1, 1, .inr (.inl f)))] h := hL
  refine s_aload_n 1235 dL_law_1234 rfl rfl ?_
  refine sp_callV 1238 hL [1, 0, 2] 3 rfl (by decide) (L1 := [rfo m (tp, an, D, (fr, wv, hs), (v, RQ, RS, SC, er, mb), ck) th]) (L2 := [flo o (tkG (tp, an, D, (fr, wv, hs), (v, RQ, RS, SC, er, mb), ck)) (tkH (tp, an, D, (fr, wv, hs), (v, RQ, RS, SC, er, mb), ck) (h1, h2, N1, N2)), pt a3 (.inl (1, 1, .inr (.inl f)))]) rfl rfo_O 1 rfl dL_law_1235 rfl cv_L_136 k_X15_take rfl rfl (Nat.le_of_ble_eq_true rfl) ⟨by decide, by omega, by omega⟩ (fun r1 L1 h q hL => ?_)
  obtain ⟨rfl, rfl⟩ := q
  have hL : stars [rfo m (tkG (tp, an, D, (fr, wv, hs), (v, RQ, RS, SC, er, mb), ck)) 0, flo o (tkG (tp, an, D, (fr, wv, hs), (v, RQ, RS, SC, er, mb), ck)) (tkH (tp, an, D, (fr, wv, hs), (v, RQ, RS, SC, er, mb), ck) (h1, h2, N1, N2)), pt a3 (.inl (1, 1, .inr (.inl f)))] h := hL
  have hL : stars [flo o (tkG (tp, an, D, (fr, wv, hs), (v, RQ, RS, SC, er, mb), ck)) (tkH (tp, an, D, (fr, wv, hs), (v, RQ, RS, SC, er, mb), ck) (h1, h2, N1, N2)), rfo m (tkG (tp, an, D, (fr, wv, hs), (v, RQ, RS, SC, er, mb), ck)) 0, pt a3 (.inl (1, 1, .inr (.inl f)))] h := stars_ixn hL 3 rfl [1, 0, 2] (by decide) rfl
  refine s_icmp_eq 1367 1241 dL_law_1238 rfl rfl (fun c1238 => ?_) (fun c1238 => absurd c1238 (fun z9 => z9 rfl))
  exact kk _ _ (t + 1) _ _ _ _ h (ov_tkG hv) (x_tk9 hx) (by omega) (by omega) (by omega) (by omega) hL
set_option maxRecDepth 20000 in
set_option maxHeartbeats 2000000 in
theorem c_state {z : Nat × Nat × (Nat → Int32)} {o m a3 k t th ce sl : Nat} {g : GS} {zh : HD} {f : Nat → Int64} {h : eH} (hL3 : z.2.1 ≤ 3072) (hk6 : 6 * k + 6 ≤ z.2.1) (hv : okV (bnd t) g) (hx : okX g) (ht14 : 14 ≤ t) (ht : t < 600000) (hce : ce + 150 ≤ 601024) (hsl : sl + 12600 ≤ 7293034) (kk : ∀ (g9 : GS) (zh9 : HD) (t9 th9 ce9 sl9 : Nat) (f9 : Nat → Int64) (h9 : eH), okV (bnd t9) g9 → okX g9 → t ≤ t9 → t9 ≤ t + 1001 → ce9 ≤ ce + 150 → sl9 ≤ sl + 12600 → stars [flo o g9 zh9, rfo m g9 th9, pt a3 (.inl (1, 1, .inr (.inl f9)))] h9 → ES (PPL z) FFL mL_law 11 430 601024 7293034 1367 [some (.ref z.1), some (.ref o), some (.ref m), some (.ref a3), some (.int (nI (6 * k))), none, none] [] h9 ce9 sl9) (hL : stars [flo o g zh, rfo m g th, pt a3 (.inl (1, 1, .inr (.inl f)))] h) : ES (PPL z) FFL mL_law 11 430 601024 7293034 1243 [some (.ref z.1), some (.ref o), some (.ref m), some (.ref a3), some (.int (nI (6 * k))), none, none] [] h ce sl := by
  obtain ⟨tp, an, D, ⟨fr, wv, hs⟩, ⟨v, RQ, RS, SC, er, mb⟩, ck⟩ := g
  obtain ⟨h1, h2, N1, N2⟩ := zh
  have hW : okW (bnd t) (fr, wv, hs) := hv.1.2.2.1
  have hM : okMS (bnd t) (v, RQ, RS, SC, er, mb) := hv.1.2.2.2.1
  have hv9 : v 9 < 100000000 := Nat.lt_of_le_of_lt hM.1.2.2.2.2.2.1 (show 8 * t < 100000000 by omega)
  have hv1 : v 1 ≤ 2 := hM.1.1
  have hw2 : wv 2 ≤ t := hW.2.1.2.1
  have hw8 : wv 8 ≤ t := hW.2.1.2.2.2.2.2.2.2.1
  have hck : ck ≤ t := hv.1.2.2.2.2.1
  have lhs : hs.length ≤ 64 := hW.2.2.2
  have hb1 : ∀ e ∈ hs, e.1 < 1000000 ∧ e.2 < 1000 := fun e he => by have y := hW.2.2.1 e he; have y1 : e.1 ≤ t + 2000 := y.1; exact ⟨by omega, by omega⟩
  have hb2 : ∀ e ∈ hs, e.1 < 2 ^ 30 ∧ e.2 ≤ 340 := fun e he => by have y := hW.2.2.1 e he; have y1 : e.1 ≤ t + 2000 := y.1; exact ⟨by omega, y.2⟩
  have hL : stars [flo o (tp, an, D, (fr, wv, hs), (v, RQ, RS, SC, er, mb), ck) (h1, h2, N1, N2), rfo m (tp, an, D, (fr, wv, hs), (v, RQ, RS, SC, er, mb), ck) th, pt a3 (.inl (1, 1, .inr (.inl f)))] h := hL
  refine s_aload_n 1244 dL_law_1243 rfl rfl ?_
  refine s_aload_n 1245 dL_law_1244 rfl rfl ?_
  refine s_iload 1247 dL_law_1245 rfl rfl ?_
  refine s_iconst 1248 (v := (nI 1)) dL_law_1247 rfl (by decide) ?_
  refine s_iadd 1249 (v := (nI ((6 * k) + 1))) dL_law_1248 rfl (nI_add (6 * k) 1) ?_
  refine l_sld 1250 dL_law_1249 rfl (show ((6 * k) + 1) < z.2.1 by omega) hL3 ?_
  refine sp_callV 1253 hL [0, 1, 2] 3 rfl (by decide) (L1 := [flo o (tp, an, D, (fr, wv, hs), (v, RQ, RS, SC, er, mb), ck) (h1, h2, N1, N2)]) (L2 := [rfo m (tp, an, D, (fr, wv, hs), (v, RQ, RS, SC, er, mb), ck) th, pt a3 (.inl (1, 1, .inr (.inl f)))]) rfl flo_O 0 rfl dL_law_1250 rfl cv_L_137 (k_X11_state (by omega) (by omega)) rfl rfl (Nat.le_of_ble_eq_true rfl) ⟨by decide, by omega, by omega⟩ (fun r1 L1 h q hL => ?_)
  obtain ⟨rfl, rfl⟩ := q
  have hL : stars [flo o (tp, an, D, (fr, wv, hs), (v, RQ, RS, SC, er, mb), ck) (h1, h2, N1, N2), rfo m (tp, an, D, (fr, wv, hs), (v, RQ, RS, SC, er, mb), ck) th, pt a3 (.inl (1, 1, .inr (.inl f)))] h := hL
  refine s_aload_n 1254 dL_law_1253 rfl rfl ?_
  refine s_aload_n 1255 dL_law_1254 rfl rfl ?_
  refine s_iload 1257 dL_law_1255 rfl rfl ?_
  refine s_iconst 1258 (v := (nI 1)) dL_law_1257 rfl (by decide) ?_
  refine s_iadd 1259 (v := (nI ((6 * k) + 1))) dL_law_1258 rfl (nI_add (6 * k) 1) ?_
  refine l_sld 1260 dL_law_1259 rfl (show ((6 * k) + 1) < z.2.1 by omega) hL3 ?_
  refine sp_callV 1263 hL [1, 0, 2] 3 rfl (by decide) (L1 := [rfo m (tp, an, D, (fr, wv, hs), (v, RQ, RS, SC, er, mb), ck) th]) (L2 := [flo o (tp, an, D, (fr, wv, hs), (v, RQ, RS, SC, er, mb), ck) (h1, h2, N1, N2), pt a3 (.inl (1, 1, .inr (.inl f)))]) rfl rfo_O 1 rfl dL_law_1260 rfl cv_L_140 (k_X15_state (by omega) (by omega)) rfl rfl (Nat.le_of_ble_eq_true rfl) ⟨by decide, by omega, by omega⟩ (fun r1 L1 h q hL => ?_)
  obtain ⟨rfl, rfl⟩ := q
  have hL : stars [rfo m (tp, an, D, (fr, wv, hs), (v, RQ, RS, SC, er, mb), ck) 0, flo o (tp, an, D, (fr, wv, hs), (v, RQ, RS, SC, er, mb), ck) (h1, h2, N1, N2), pt a3 (.inl (1, 1, .inr (.inl f)))] h := hL
  have hL : stars [flo o (tp, an, D, (fr, wv, hs), (v, RQ, RS, SC, er, mb), ck) (h1, h2, N1, N2), rfo m (tp, an, D, (fr, wv, hs), (v, RQ, RS, SC, er, mb), ck) 0, pt a3 (.inl (1, 1, .inr (.inl f)))] h := stars_ixn hL 3 rfl [1, 0, 2] (by decide) rfl
  refine s_icmp_eq 1367 1266 dL_law_1263 rfl rfl (fun c1263 => ?_) (fun c1263 => absurd c1263 (fun z9 => z9 rfl))
  exact kk _ _ (t + 1) _ _ _ _ h (ov_up hv) hx (by omega) (by omega) (by omega) (by omega) hL
set_option maxRecDepth 20000 in
set_option maxHeartbeats 2000000 in
theorem c_counter {z : Nat × Nat × (Nat → Int32)} {o m a3 k t th ce sl : Nat} {g : GS} {zh : HD} {f : Nat → Int64} {h : eH} (hL3 : z.2.1 ≤ 3072) (hk6 : 6 * k + 6 ≤ z.2.1) (hv : okV (bnd t) g) (hx : okX g) (ht14 : 14 ≤ t) (ht : t < 600000) (hce : ce + 150 ≤ 601024) (hsl : sl + 12600 ≤ 7293034) (kk : ∀ (g9 : GS) (zh9 : HD) (t9 th9 ce9 sl9 : Nat) (f9 : Nat → Int64) (h9 : eH), okV (bnd t9) g9 → okX g9 → t ≤ t9 → t9 ≤ t + 1001 → ce9 ≤ ce + 150 → sl9 ≤ sl + 12600 → stars [flo o g9 zh9, rfo m g9 th9, pt a3 (.inl (1, 1, .inr (.inl f9)))] h9 → ES (PPL z) FFL mL_law 11 430 601024 7293034 1367 [some (.ref z.1), some (.ref o), some (.ref m), some (.ref a3), some (.int (nI (6 * k))), none, none] [] h9 ce9 sl9) (hL : stars [flo o g zh, rfo m g th, pt a3 (.inl (1, 1, .inr (.inl f)))] h) : ES (PPL z) FFL mL_law 11 430 601024 7293034 1268 [some (.ref z.1), some (.ref o), some (.ref m), some (.ref a3), some (.int (nI (6 * k))), none, none] [] h ce sl := by
  obtain ⟨tp, an, D, ⟨fr, wv, hs⟩, ⟨v, RQ, RS, SC, er, mb⟩, ck⟩ := g
  obtain ⟨h1, h2, N1, N2⟩ := zh
  have hW : okW (bnd t) (fr, wv, hs) := hv.1.2.2.1
  have hM : okMS (bnd t) (v, RQ, RS, SC, er, mb) := hv.1.2.2.2.1
  have hv9 : v 9 < 100000000 := Nat.lt_of_le_of_lt hM.1.2.2.2.2.2.1 (show 8 * t < 100000000 by omega)
  have hv1 : v 1 ≤ 2 := hM.1.1
  have hw2 : wv 2 ≤ t := hW.2.1.2.1
  have hw8 : wv 8 ≤ t := hW.2.1.2.2.2.2.2.2.2.1
  have hck : ck ≤ t := hv.1.2.2.2.2.1
  have lhs : hs.length ≤ 64 := hW.2.2.2
  have hb1 : ∀ e ∈ hs, e.1 < 1000000 ∧ e.2 < 1000 := fun e he => by have y := hW.2.2.1 e he; have y1 : e.1 ≤ t + 2000 := y.1; exact ⟨by omega, by omega⟩
  have hb2 : ∀ e ∈ hs, e.1 < 2 ^ 30 ∧ e.2 ≤ 340 := fun e he => by have y := hW.2.2.1 e he; have y1 : e.1 ≤ t + 2000 := y.1; exact ⟨by omega, y.2⟩
  have hL : stars [flo o (tp, an, D, (fr, wv, hs), (v, RQ, RS, SC, er, mb), ck) (h1, h2, N1, N2), rfo m (tp, an, D, (fr, wv, hs), (v, RQ, RS, SC, er, mb), ck) th, pt a3 (.inl (1, 1, .inr (.inl f)))] h := hL
  refine s_aload_n 1269 dL_law_1268 rfl rfl ?_
  refine s_aload_n 1270 dL_law_1269 rfl rfl ?_
  refine s_iload 1272 dL_law_1270 rfl rfl ?_
  refine s_iconst 1273 (v := (nI 1)) dL_law_1272 rfl (by decide) ?_
  refine s_iadd 1274 (v := (nI ((6 * k) + 1))) dL_law_1273 rfl (nI_add (6 * k) 1) ?_
  refine l_sld 1275 dL_law_1274 rfl (show ((6 * k) + 1) < z.2.1 by omega) hL3 ?_
  refine s_aload_n 1276 dL_law_1275 rfl rfl ?_
  refine s_iload 1278 dL_law_1276 rfl rfl ?_
  refine s_iconst 1279 (v := (nI 2)) dL_law_1278 rfl (by decide) ?_
  refine s_iadd 1280 (v := (nI ((6 * k) + 2))) dL_law_1279 rfl (nI_add (6 * k) 2) ?_
  refine l_sld 1281 dL_law_1280 rfl (show ((6 * k) + 2) < z.2.1 by omega) hL3 ?_
  refine sp_callV 1284 hL [0, 1, 2] 3 rfl (by decide) (L1 := [flo o (tp, an, D, (fr, wv, hs), (v, RQ, RS, SC, er, mb), ck) (h1, h2, N1, N2)]) (L2 := [rfo m (tp, an, D, (fr, wv, hs), (v, RQ, RS, SC, er, mb), ck) th, pt a3 (.inl (1, 1, .inr (.inl f)))]) rfl flo_O 0 rfl dL_law_1281 rfl cv_L_141 (k_X11_counter (fun s hs => (hv.1.2.1 s hs).1)) rfl rfl (Nat.le_of_ble_eq_true rfl) ⟨by decide, by omega, by omega⟩ (fun r1 L1 h q hL => ?_)
  obtain ⟨rfl, rfl⟩ := q
  have hL : stars [flo o (tp, an, D, (fr, wv, hs), (v, RQ, RS, SC, er, mb), ck) (h1, h2, N1, N2), rfo m (tp, an, D, (fr, wv, hs), (v, RQ, RS, SC, er, mb), ck) th, pt a3 (.inl (1, 1, .inr (.inl f)))] h := hL
  refine s_aload_n 1285 dL_law_1284 rfl rfl ?_
  refine s_aload_n 1286 dL_law_1285 rfl rfl ?_
  refine s_iload 1288 dL_law_1286 rfl rfl ?_
  refine s_iconst 1289 (v := (nI 1)) dL_law_1288 rfl (by decide) ?_
  refine s_iadd 1290 (v := (nI ((6 * k) + 1))) dL_law_1289 rfl (nI_add (6 * k) 1) ?_
  refine l_sld 1291 dL_law_1290 rfl (show ((6 * k) + 1) < z.2.1 by omega) hL3 ?_
  refine s_aload_n 1292 dL_law_1291 rfl rfl ?_
  refine s_iload 1294 dL_law_1292 rfl rfl ?_
  refine s_iconst 1295 (v := (nI 2)) dL_law_1294 rfl (by decide) ?_
  refine s_iadd 1296 (v := (nI ((6 * k) + 2))) dL_law_1295 rfl (nI_add (6 * k) 2) ?_
  refine l_sld 1297 dL_law_1296 rfl (show ((6 * k) + 2) < z.2.1 by omega) hL3 ?_
  refine sp_callV 1300 hL [1, 0, 2] 3 rfl (by decide) (L1 := [rfo m (tp, an, D, (fr, wv, hs), (v, RQ, RS, SC, er, mb), ck) th]) (L2 := [flo o (tp, an, D, (fr, wv, hs), (v, RQ, RS, SC, er, mb), ck) (h1, h2, N1, N2), pt a3 (.inl (1, 1, .inr (.inl f)))]) rfl rfo_O 1 rfl dL_law_1297 rfl cv_L_144 (k_X15_counter (fun s hs => ⟨(hv.1.2.1 s hs).1, hv.2 s hs⟩)) rfl rfl (Nat.le_of_ble_eq_true rfl) ⟨by decide, by omega, by omega⟩ (fun r1 L1 h q hL => ?_)
  obtain ⟨rfl, rfl⟩ := q
  have hL : stars [rfo m (tp, an, D, (fr, wv, hs), (v, RQ, RS, SC, er, mb), ck) 0, flo o (tp, an, D, (fr, wv, hs), (v, RQ, RS, SC, er, mb), ck) (h1, h2, N1, N2), pt a3 (.inl (1, 1, .inr (.inl f)))] h := hL
  have hL : stars [flo o (tp, an, D, (fr, wv, hs), (v, RQ, RS, SC, er, mb), ck) (h1, h2, N1, N2), rfo m (tp, an, D, (fr, wv, hs), (v, RQ, RS, SC, er, mb), ck) 0, pt a3 (.inl (1, 1, .inr (.inl f)))] h := stars_ixn hL 3 rfl [1, 0, 2] (by decide) rfl
  refine s_icmp_eq 1367 1303 dL_law_1300 rfl rfl (fun c1300 => ?_) (fun c1300 => absurd c1300 (fun z9 => z9 rfl))
  exact kk _ _ (t + 1) _ _ _ _ h (ov_up hv) hx (by omega) (by omega) (by omega) (by omega) hL
set_option maxRecDepth 20000 in
set_option maxHeartbeats 2000000 in
theorem c_event {z : Nat × Nat × (Nat → Int32)} {o m a3 k t th ce sl : Nat} {g : GS} {zh : HD} {f : Nat → Int64} {h : eH} (hL3 : z.2.1 ≤ 3072) (hk6 : 6 * k + 6 ≤ z.2.1) (hv : okV (bnd t) g) (hx : okX g) (ht14 : 14 ≤ t) (ht : t < 600000) (hce : ce + 150 ≤ 601024) (hsl : sl + 12600 ≤ 7293034) (kk : ∀ (g9 : GS) (zh9 : HD) (t9 th9 ce9 sl9 : Nat) (f9 : Nat → Int64) (h9 : eH), okV (bnd t9) g9 → okX g9 → t ≤ t9 → t9 ≤ t + 1001 → ce9 ≤ ce + 150 → sl9 ≤ sl + 12600 → stars [flo o g9 zh9, rfo m g9 th9, pt a3 (.inl (1, 1, .inr (.inl f9)))] h9 → ES (PPL z) FFL mL_law 11 430 601024 7293034 1367 [some (.ref z.1), some (.ref o), some (.ref m), some (.ref a3), some (.int (nI (6 * k))), none, none] [] h9 ce9 sl9) (hL : stars [flo o g zh, rfo m g th, pt a3 (.inl (1, 1, .inr (.inl f)))] h) : ES (PPL z) FFL mL_law 11 430 601024 7293034 1305 [some (.ref z.1), some (.ref o), some (.ref m), some (.ref a3), some (.int (nI (6 * k))), none, none] [] h ce sl := by
  obtain ⟨tp, an, D, ⟨fr, wv, hs⟩, ⟨v, RQ, RS, SC, er, mb⟩, ck⟩ := g
  obtain ⟨h1, h2, N1, N2⟩ := zh
  have hW : okW (bnd t) (fr, wv, hs) := hv.1.2.2.1
  have hM : okMS (bnd t) (v, RQ, RS, SC, er, mb) := hv.1.2.2.2.1
  have hv9 : v 9 < 100000000 := Nat.lt_of_le_of_lt hM.1.2.2.2.2.2.1 (show 8 * t < 100000000 by omega)
  have hv1 : v 1 ≤ 2 := hM.1.1
  have hw2 : wv 2 ≤ t := hW.2.1.2.1
  have hw8 : wv 8 ≤ t := hW.2.1.2.2.2.2.2.2.2.1
  have hck : ck ≤ t := hv.1.2.2.2.2.1
  have lhs : hs.length ≤ 64 := hW.2.2.2
  have hb1 : ∀ e ∈ hs, e.1 < 1000000 ∧ e.2 < 1000 := fun e he => by have y := hW.2.2.1 e he; have y1 : e.1 ≤ t + 2000 := y.1; exact ⟨by omega, by omega⟩
  have hb2 : ∀ e ∈ hs, e.1 < 2 ^ 30 ∧ e.2 ≤ 340 := fun e he => by have y := hW.2.2.1 e he; have y1 : e.1 ≤ t + 2000 := y.1; exact ⟨by omega, y.2⟩
  have hL : stars [flo o (tp, an, D, (fr, wv, hs), (v, RQ, RS, SC, er, mb), ck) (h1, h2, N1, N2), rfo m (tp, an, D, (fr, wv, hs), (v, RQ, RS, SC, er, mb), ck) th, pt a3 (.inl (1, 1, .inr (.inl f)))] h := hL
  refine s_aload_n 1306 dL_law_1305 rfl rfl ?_
  refine s_aload_n 1307 dL_law_1306 rfl rfl ?_
  refine s_iload 1309 dL_law_1307 rfl rfl ?_
  refine s_iconst 1310 (v := (nI 1)) dL_law_1309 rfl (by decide) ?_
  refine s_iadd 1311 (v := (nI ((6 * k) + 1))) dL_law_1310 rfl (nI_add (6 * k) 1) ?_
  refine l_sld 1312 dL_law_1311 rfl (show ((6 * k) + 1) < z.2.1 by omega) hL3 ?_
  refine s_aload_n 1313 dL_law_1312 rfl rfl ?_
  refine s_iload 1315 dL_law_1313 rfl rfl ?_
  refine s_iconst 1316 (v := (nI 2)) dL_law_1315 rfl (by decide) ?_
  refine s_iadd 1317 (v := (nI ((6 * k) + 2))) dL_law_1316 rfl (nI_add (6 * k) 2) ?_
  refine l_sld 1318 dL_law_1317 rfl (show ((6 * k) + 2) < z.2.1 by omega) hL3 ?_
  refine sp_callV 1321 hL [0, 1, 2] 3 rfl (by decide) (L1 := [flo o (tp, an, D, (fr, wv, hs), (v, RQ, RS, SC, er, mb), ck) (h1, h2, N1, N2)]) (L2 := [rfo m (tp, an, D, (fr, wv, hs), (v, RQ, RS, SC, er, mb), ck) th, pt a3 (.inl (1, 1, .inr (.inl f)))]) rfl flo_O 0 rfl dL_law_1318 rfl cv_L_145 (k_X11_event (fun s hs => (hv.1.2.1 s hs).1)) rfl rfl (Nat.le_of_ble_eq_true rfl) ⟨by decide, by omega, by omega⟩ (fun r1 L1 h q hL => ?_)
  obtain ⟨rfl, rfl⟩ := q
  have hL : stars [flo o (tp, an, D, (fr, wv, hs), (v, RQ, RS, SC, er, mb), ck) (h1, h2, N1, N2), rfo m (tp, an, D, (fr, wv, hs), (v, RQ, RS, SC, er, mb), ck) th, pt a3 (.inl (1, 1, .inr (.inl f)))] h := hL
  refine s_aload_n 1322 dL_law_1321 rfl rfl ?_
  refine s_aload_n 1323 dL_law_1322 rfl rfl ?_
  refine s_iload 1325 dL_law_1323 rfl rfl ?_
  refine s_iconst 1326 (v := (nI 1)) dL_law_1325 rfl (by decide) ?_
  refine s_iadd 1327 (v := (nI ((6 * k) + 1))) dL_law_1326 rfl (nI_add (6 * k) 1) ?_
  refine l_sld 1328 dL_law_1327 rfl (show ((6 * k) + 1) < z.2.1 by omega) hL3 ?_
  refine s_aload_n 1329 dL_law_1328 rfl rfl ?_
  refine s_iload 1331 dL_law_1329 rfl rfl ?_
  refine s_iconst 1332 (v := (nI 2)) dL_law_1331 rfl (by decide) ?_
  refine s_iadd 1333 (v := (nI ((6 * k) + 2))) dL_law_1332 rfl (nI_add (6 * k) 2) ?_
  refine l_sld 1334 dL_law_1333 rfl (show ((6 * k) + 2) < z.2.1 by omega) hL3 ?_
  refine sp_callV 1337 hL [1, 0, 2] 3 rfl (by decide) (L1 := [rfo m (tp, an, D, (fr, wv, hs), (v, RQ, RS, SC, er, mb), ck) th]) (L2 := [flo o (tp, an, D, (fr, wv, hs), (v, RQ, RS, SC, er, mb), ck) (h1, h2, N1, N2), pt a3 (.inl (1, 1, .inr (.inl f)))]) rfl rfo_O 1 rfl dL_law_1334 rfl cv_L_148 (k_X15_event (fun s hs => ⟨(hv.1.2.1 s hs).1, hv.2 s hs⟩)) rfl rfl (Nat.le_of_ble_eq_true rfl) ⟨by decide, by omega, by omega⟩ (fun r1 L1 h q hL => ?_)
  obtain ⟨rfl, rfl⟩ := q
  have hL : stars [rfo m (tp, an, D, (fr, wv, hs), (v, RQ, RS, SC, er, mb), ck) 0, flo o (tp, an, D, (fr, wv, hs), (v, RQ, RS, SC, er, mb), ck) (h1, h2, N1, N2), pt a3 (.inl (1, 1, .inr (.inl f)))] h := hL
  have hL : stars [flo o (tp, an, D, (fr, wv, hs), (v, RQ, RS, SC, er, mb), ck) (h1, h2, N1, N2), rfo m (tp, an, D, (fr, wv, hs), (v, RQ, RS, SC, er, mb), ck) 0, pt a3 (.inl (1, 1, .inr (.inl f)))] h := stars_ixn hL 3 rfl [1, 0, 2] (by decide) rfl
  refine s_icmp_eq 1367 1340 dL_law_1337 rfl rfl (fun c1337 => ?_) (fun c1337 => absurd c1337 (fun z9 => z9 rfl))
  exact kk _ _ (t + 1) _ _ _ _ h (ov_up hv) hx (by omega) (by omega) (by omega) (by omega) hL
set_option maxRecDepth 20000 in
set_option maxHeartbeats 2000000 in
theorem c_sent {z : Nat × Nat × (Nat → Int32)} {o m a3 k t th ce sl : Nat} {g : GS} {zh : HD} {f : Nat → Int64} {h : eH} (hL3 : z.2.1 ≤ 3072) (hk6 : 6 * k + 6 ≤ z.2.1) (hv : okV (bnd t) g) (hx : okX g) (ht14 : 14 ≤ t) (ht : t < 600000) (hce : ce + 150 ≤ 601024) (hsl : sl + 12600 ≤ 7293034) (kk : ∀ (g9 : GS) (zh9 : HD) (t9 th9 ce9 sl9 : Nat) (f9 : Nat → Int64) (h9 : eH), okV (bnd t9) g9 → okX g9 → t ≤ t9 → t9 ≤ t + 1001 → ce9 ≤ ce + 150 → sl9 ≤ sl + 12600 → stars [flo o g9 zh9, rfo m g9 th9, pt a3 (.inl (1, 1, .inr (.inl f9)))] h9 → ES (PPL z) FFL mL_law 11 430 601024 7293034 1367 [some (.ref z.1), some (.ref o), some (.ref m), some (.ref a3), some (.int (nI (6 * k))), none, none] [] h9 ce9 sl9) (hL : stars [flo o g zh, rfo m g th, pt a3 (.inl (1, 1, .inr (.inl f)))] h) : ES (PPL z) FFL mL_law 11 430 601024 7293034 1342 [some (.ref z.1), some (.ref o), some (.ref m), some (.ref a3), some (.int (nI (6 * k))), none, none] [] h ce sl := by
  obtain ⟨tp, an, D, ⟨fr, wv, hs⟩, ⟨v, RQ, RS, SC, er, mb⟩, ck⟩ := g
  obtain ⟨h1, h2, N1, N2⟩ := zh
  have hW : okW (bnd t) (fr, wv, hs) := hv.1.2.2.1
  have hM : okMS (bnd t) (v, RQ, RS, SC, er, mb) := hv.1.2.2.2.1
  have hv9 : v 9 < 100000000 := Nat.lt_of_le_of_lt hM.1.2.2.2.2.2.1 (show 8 * t < 100000000 by omega)
  have hv1 : v 1 ≤ 2 := hM.1.1
  have hw2 : wv 2 ≤ t := hW.2.1.2.1
  have hw8 : wv 8 ≤ t := hW.2.1.2.2.2.2.2.2.2.1
  have hck : ck ≤ t := hv.1.2.2.2.2.1
  have lhs : hs.length ≤ 64 := hW.2.2.2
  have hb1 : ∀ e ∈ hs, e.1 < 1000000 ∧ e.2 < 1000 := fun e he => by have y := hW.2.2.1 e he; have y1 : e.1 ≤ t + 2000 := y.1; exact ⟨by omega, by omega⟩
  have hb2 : ∀ e ∈ hs, e.1 < 2 ^ 30 ∧ e.2 ≤ 340 := fun e he => by have y := hW.2.2.1 e he; have y1 : e.1 ≤ t + 2000 := y.1; exact ⟨by omega, y.2⟩
  have hL : stars [flo o (tp, an, D, (fr, wv, hs), (v, RQ, RS, SC, er, mb), ck) (h1, h2, N1, N2), rfo m (tp, an, D, (fr, wv, hs), (v, RQ, RS, SC, er, mb), ck) th, pt a3 (.inl (1, 1, .inr (.inl f)))] h := hL
  refine s_aload_n 1343 dL_law_1342 rfl rfl ?_
  refine s_aload_n 1344 dL_law_1343 rfl rfl ?_
  refine s_iload 1346 dL_law_1344 rfl rfl ?_
  refine s_iconst 1347 (v := (nI 1)) dL_law_1346 rfl (by decide) ?_
  refine s_iadd 1348 (v := (nI ((6 * k) + 1))) dL_law_1347 rfl (nI_add (6 * k) 1) ?_
  refine l_sld 1349 dL_law_1348 rfl (show ((6 * k) + 1) < z.2.1 by omega) hL3 ?_
  refine sp_callV 1352 hL [0, 1, 2] 3 rfl (by decide) (L1 := [flo o (tp, an, D, (fr, wv, hs), (v, RQ, RS, SC, er, mb), ck) (h1, h2, N1, N2)]) (L2 := [rfo m (tp, an, D, (fr, wv, hs), (v, RQ, RS, SC, er, mb), ck) th, pt a3 (.inl (1, 1, .inr (.inl f)))]) rfl flo_O 0 rfl dL_law_1349 rfl cv_L_149 k_X11_sent rfl rfl (Nat.le_of_ble_eq_true rfl) ⟨by decide, by omega, by omega⟩ (fun r1 L1 h q hL => ?_)
  obtain ⟨rfl, rfl⟩ := q
  have hL : stars [flo o (tp, an, D, (fr, wv, hs), (v, RQ, RS, SC, er, mb), ck) (h1, h2, N1, N2), rfo m (tp, an, D, (fr, wv, hs), (v, RQ, RS, SC, er, mb), ck) th, pt a3 (.inl (1, 1, .inr (.inl f)))] h := hL
  refine s_aload_n 1353 dL_law_1352 rfl rfl ?_
  refine s_aload_n 1354 dL_law_1353 rfl rfl ?_
  refine s_iload 1356 dL_law_1354 rfl rfl ?_
  refine s_iconst 1357 (v := (nI 1)) dL_law_1356 rfl (by decide) ?_
  refine s_iadd 1358 (v := (nI ((6 * k) + 1))) dL_law_1357 rfl (nI_add (6 * k) 1) ?_
  refine l_sld 1359 dL_law_1358 rfl (show ((6 * k) + 1) < z.2.1 by omega) hL3 ?_
  refine sp_callV 1362 hL [1, 0, 2] 3 rfl (by decide) (L1 := [rfo m (tp, an, D, (fr, wv, hs), (v, RQ, RS, SC, er, mb), ck) th]) (L2 := [flo o (tp, an, D, (fr, wv, hs), (v, RQ, RS, SC, er, mb), ck) (h1, h2, N1, N2), pt a3 (.inl (1, 1, .inr (.inl f)))]) rfl rfo_O 1 rfl dL_law_1359 rfl cv_L_152 k_X15_sent rfl rfl (Nat.le_of_ble_eq_true rfl) ⟨by decide, by omega, by omega⟩ (fun r1 L1 h q hL => ?_)
  obtain ⟨rfl, rfl⟩ := q
  have hL : stars [rfo m (tp, an, D, (fr, wv, hs), (v, RQ, RS, SC, er, mb), ck) 0, flo o (tp, an, D, (fr, wv, hs), (v, RQ, RS, SC, er, mb), ck) (h1, h2, N1, N2), pt a3 (.inl (1, 1, .inr (.inl f)))] h := hL
  have hL : stars [flo o (tp, an, D, (fr, wv, hs), (v, RQ, RS, SC, er, mb), ck) (h1, h2, N1, N2), rfo m (tp, an, D, (fr, wv, hs), (v, RQ, RS, SC, er, mb), ck) 0, pt a3 (.inl (1, 1, .inr (.inl f)))] h := stars_ixn hL 3 rfl [1, 0, 2] (by decide) rfl
  refine s_icmp_eq 1367 1365 dL_law_1362 rfl rfl (fun c1362 => ?_) (fun c1362 => absurd c1362 (fun z9 => z9 rfl))
  exact kk _ _ (t + 1) _ _ _ _ h (ov_up hv) hx (by omega) (by omega) (by omega) (by omega) hL
