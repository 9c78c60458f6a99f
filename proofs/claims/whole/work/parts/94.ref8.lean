/-! the reference: doesFit, isGood -/
set_option maxRecDepth 20000 in
set_option maxHeartbeats 2000000 in
theorem u_X15_doesFit {b qn a an : Nat} {q ar : List Nat} {h : eH} (hR : iaR b qn q h) (hqn : qn < 100000) (hq : ∀ x ∈ q, x < 256) (hA : iaR a an ar h) (han : an < 100000) (ha : ∀ x ∈ ar, x < 256) (h1 : 1 ≤ q.length) (h2 : 1 ≤ ar.length) (hl9 : q.length ≤ 70000 ∧ ar.length ≤ 70000) : PC mX15_doesFit [.ref b, .int (nI q.length), .ref a, .int (nI ar.length)] h (some (.int (bI (fitF q ar)))) 2 49 := by
  have hle := hR.le
  have hle2 := hA.le
  refine PC.mk 2 (ls := [some (.ref b), some (.int (nI q.length)), some (.ref a), some (.int (nI ar.length)), none, none]) rfl rfl (Nat.le_of_ble_eq_true rfl) rfl ?_
  refine e_aload_n 1 dX15_doesFit_0 rfl rfl ?_
  refine e_iconst 2 (v := (nI 0)) dX15_doesFit_1 rfl (by decide) ?_
  have b2 := gd_lt (i := 0) hq (by decide)
  refine v_iald 3 hR (k := 0) (x := (q.getD 0 0)) dX15_doesFit_2 rfl (by omega) (by omega) rfl ?_
  refine e_istore 5 (ls' := [some (.ref b), some (.int (nI q.length)), some (.ref a), some (.int (nI ar.length)), some (.int (nI (q.getD 0 0))), none]) dX15_doesFit_3 rfl (by decide) rfl ?_
  refine e_aload_n 6 dX15_doesFit_5 rfl rfl ?_
  refine e_iconst 7 (v := (nI 0)) dX15_doesFit_6 rfl (by decide) ?_
  have b7 := gd_lt (i := 0) ha (by decide)
  refine v_iald 8 hA (k := 0) (x := (ar.getD 0 0)) dX15_doesFit_7 rfl (by omega) (by omega) rfl ?_
  refine e_iload 10 dX15_doesFit_8 rfl rfl ?_
  refine e_icmp_ne 21 13 dX15_doesFit_10 rfl rfl (fun c10 => ?_) (fun c10 => ?_)
  · have k10 := j_ne_t (a := (ar.getD 0 0)) (b := (q.getD 0 0)) (by omega) (by omega) c10
    refine e_iconst 22 (v := (nI 0)) dX15_doesFit_21 rfl (by decide) ?_
    exact e_zret dX15_doesFit_22 rfl (Or.inl (by decide)) (by omega) (by omega) (⟨by rw [fitF, if_pos (Or.inl (by omega))]; rfl, rfl⟩)
  · have k10 := j_ne_f (a := (ar.getD 0 0)) (b := (q.getD 0 0)) (by omega) (by omega) c10
    refine e_aload_n 14 dX15_doesFit_13 rfl rfl ?_
    refine e_iload_n 15 dX15_doesFit_14 rfl rfl ?_
    refine u_callS 18 dX15_doesFit_15 rfl cs_X15_103 (u_X15_isShaped hR hqn hq h1) rfl rfl (Nat.le_of_ble_eq_true rfl) (by decide) ⟨by omega, by omega⟩ ?_
    refine e_if_ne 23 21 dX15_doesFit_18 rfl rfl (fun c18 => ?_) (fun c18 => ?_)
    · have k18 := jb_ne_t c18
      have h18 : shF q = 0 := of_decide_eq_true k18
      refine e_iload 25 dX15_doesFit_23 rfl rfl ?_
      rcases (show ((q.getD 0 0) < 1 ∨ 24 < (q.getD 0 0)) ∨ ((q.getD 0 0) = 1 ∨ (q.getD 0 0) = 2) ∨ ((q.getD 0 0) = 3 ∨ (q.getD 0 0) = 4 ∨ (q.getD 0 0) = 23) ∨ ((q.getD 0 0) = 5 ∨ (q.getD 0 0) = 6 ∨ (q.getD 0 0) = 21 ∨ (q.getD 0 0) = 22) ∨ ((q.getD 0 0) = 7) ∨ ((q.getD 0 0) = 8) ∨ ((q.getD 0 0) = 9 ∨ (q.getD 0 0) = 10 ∨ (q.getD 0 0) = 13 ∨ (q.getD 0 0) = 14 ∨ (q.getD 0 0) = 18 ∨ (q.getD 0 0) = 19) ∨ ((q.getD 0 0) = 11) ∨ ((q.getD 0 0) = 12) ∨ ((q.getD 0 0) = 15 ∨ (q.getD 0 0) = 16) ∨ ((q.getD 0 0) = 17) ∨ ((q.getD 0 0) = 20) ∨ ((q.getD 0 0) = 24) by omega) with s25 | s25 | s25 | s25 | s25 | s25 | s25 | s25 | s25 | s25 | s25 | s25 | s25
      · refine e_tableOut 485 dX15_doesFit_25 (by rw [nI_toInt (by omega)]; omega) rfl ?_
        have t18 := sh_told h18
        have g9 := sh_43 (q := q) (by omega) h18
        refine e_iload_n 486 dX15_doesFit_485 rfl rfl ?_
        refine e_bipush 488 (v := (nI 7)) dX15_doesFit_486 rfl (by decide) ?_
        refine e_icmp_lt 512 491 dX15_doesFit_488 rfl rfl (fun c488 => ?_) (fun c488 => ?_)
        · have k488 := j_lt_t (a := ar.length) (b := 7) (by omega) (by omega) c488
          refine e_iconst 513 (v := (nI 0)) dX15_doesFit_512 rfl (by decide) ?_
          exact e_zret dX15_doesFit_513 rfl (Or.inl (by decide)) (by omega) (by omega) (⟨by rw [show fitF q ar = false by (rw [fitF, if_neg (fun z => z.elim (fun y => y (by omega)) (fun y => y h18)), if_neg (by omega), if_neg (by omega), if_neg (by omega), if_neg (by omega), if_neg (by omega), if_neg (by omega), if_neg (by omega), if_neg (by omega), if_neg (by omega), if_neg (by omega), if_pos (by omega)]; rw [decide_eq_false (by omega)]; rfl)]; rfl, rfl⟩)
        · have k488 := j_lt_f (a := ar.length) (b := 7) (by omega) (by omega) c488
          refine e_aload_n 492 dX15_doesFit_491 rfl rfl ?_
          refine e_aload_n 493 dX15_doesFit_492 rfl rfl ?_
          refine e_iconst 494 (v := (nI 3)) dX15_doesFit_493 rfl (by decide) ?_
          refine u_callS 497 dX15_doesFit_494 rfl cs_X15_330 (u_X15_isBegun hR hqn hq hA han ha (by omega) (by omega)) rfl rfl (Nat.le_of_ble_eq_true rfl) (by decide) ⟨by omega, by omega⟩ ?_
          refine e_if_eq 512 500 dX15_doesFit_497 rfl rfl (fun c497 => ?_) (fun c497 => ?_)
          · have k497 := jb_eq_t c497
            refine e_iconst 513 (v := (nI 0)) dX15_doesFit_512 rfl (by decide) ?_
            exact e_zret dX15_doesFit_513 rfl (Or.inl (by decide)) (by omega) (by omega) (⟨by rw [show fitF q ar = false by (rw [fitF, if_neg (fun z => z.elim (fun y => y (by omega)) (fun y => y h18)), if_neg (by omega), if_neg (by omega), if_neg (by omega), if_neg (by omega), if_neg (by omega), if_neg (by omega), if_neg (by omega), if_neg (by omega), if_neg (by omega), if_neg (by omega), if_pos (by omega)]; rw [k497, decide_eq_true (by omega)]; rfl)]; rfl, rfl⟩)
          · have k497 := jb_eq_f c497
            refine e_aload_n 501 dX15_doesFit_500 rfl rfl ?_
            refine e_iload_n 502 dX15_doesFit_501 rfl rfl ?_
            refine u_callS 505 dX15_doesFit_502 rfl cs_X15_337 (u_X15_doNamesFit hA han ha (by omega)) rfl rfl (Nat.le_of_ble_eq_true rfl) (by decide) ⟨by omega, by omega⟩ ?_
            refine e_if_eq 512 508 dX15_doesFit_505 rfl rfl (fun c505 => ?_) (fun c505 => ?_)
            · have k505 := jb_eq_t c505
              refine e_iconst 513 (v := (nI 0)) dX15_doesFit_512 rfl (by decide) ?_
              exact e_zret dX15_doesFit_513 rfl (Or.inl (by decide)) (by omega) (by omega) (⟨by rw [show fitF q ar = false by (rw [fitF, if_neg (fun z => z.elim (fun y => y (by omega)) (fun y => y h18)), if_neg (by omega), if_neg (by omega), if_neg (by omega), if_neg (by omega), if_neg (by omega), if_neg (by omega), if_neg (by omega), if_neg (by omega), if_neg (by omega), if_neg (by omega), if_pos (by omega)]; rw [k497, k505, decide_eq_true (by omega)]; rfl)]; rfl, rfl⟩)
            · have k505 := jb_eq_f c505
              refine e_iconst 509 (v := (nI 1)) dX15_doesFit_508 rfl (by decide) ?_
              refine e_goto 513 dX15_doesFit_509 rfl ?_
              exact e_zret dX15_doesFit_513 rfl (Or.inr (by decide)) (by omega) (by omega) (⟨by rw [show fitF q ar = true by (rw [fitF, if_neg (fun z => z.elim (fun y => y (by omega)) (fun y => y h18)), if_neg (by omega), if_neg (by omega), if_neg (by omega), if_neg (by omega), if_neg (by omega), if_neg (by omega), if_neg (by omega), if_neg (by omega), if_neg (by omega), if_neg (by omega), if_pos (by omega)]; rw [k497, k505, decide_eq_true (by omega)]; rfl)]; rfl, rfl⟩)
      · refine e_tableIn 176 (off := 151) dX15_doesFit_25 (by rw [nI_toInt (by omega)]; omega) (by rw [nI_toInt (by omega)]; omega) (by rcases s25 with s25 | s25 <;> rw [s25] <;> decide) rfl ?_
        have g9 := sh_1 (q := q) (by omega) h18
        refine e_iload_n 177 dX15_doesFit_176 rfl rfl ?_
        refine e_iconst 178 (v := (nI 2)) dX15_doesFit_177 rfl (by decide) ?_
        refine e_icmp_lt 211 181 dX15_doesFit_178 rfl rfl (fun c178 => ?_) (fun c178 => ?_)
        · have k178 := j_lt_t (a := ar.length) (b := 2) (by omega) (by omega) c178
          refine e_iconst 212 (v := (nI 0)) dX15_doesFit_211 rfl (by decide) ?_
          exact e_zret dX15_doesFit_212 rfl (Or.inl (by decide)) (by omega) (by omega) (⟨by rw [show fitF q ar = false by (rw [fitF, if_neg (fun z => z.elim (fun y => y (by omega)) (fun y => y h18)), if_pos (by omega)]; exact decide_eq_false (by omega))]; rfl, rfl⟩)
        · have k178 := j_lt_f (a := ar.length) (b := 2) (by omega) (by omega) c178
          refine e_aload_n 182 dX15_doesFit_181 rfl rfl ?_
          refine e_iconst 183 (v := (nI 1)) dX15_doesFit_182 rfl (by decide) ?_
          have b183 := gd_lt (i := 1) ha (by decide)
          refine v_iald 184 hA (k := 1) (x := (ar.getD 1 0)) dX15_doesFit_183 rfl (by omega) (by omega) rfl ?_
          refine e_aload_n 185 dX15_doesFit_184 rfl rfl ?_
          refine e_iconst 186 (v := (nI 3)) dX15_doesFit_185 rfl (by decide) ?_
          refine u_callS 189 dX15_doesFit_186 rfl cs_X15_85 (u_X15_two hR (k := 3) (by omega) (by omega)) rfl rfl (Nat.le_of_ble_eq_true rfl) (by decide) ⟨by omega, by omega⟩ ?_
          have w186 := wd_lt (k := 3) hq
          refine e_bipush 191 (v := (nI 7)) dX15_doesFit_189 rfl (by decide) ?_
          refine e_iadd 192 (v := (nI ((wd q 3) + 7))) dX15_doesFit_191 rfl (nI_add (wd q 3) 7) ?_
          refine e_bipush 194 (v := (nI 8)) dX15_doesFit_192 rfl (by decide) ?_
          refine e_idiv 195 (v := (nI (((wd q 3) + 7) / 8))) dX15_doesFit_194 rfl (by decide) (pk_div (by omega) (by decide) (by decide)) ?_
          refine e_icmp_ne 211 198 dX15_doesFit_195 rfl rfl (fun c195 => ?_) (fun c195 => ?_)
          · have k195 := j_ne_t (a := (ar.getD 1 0)) (b := (((wd q 3) + 7) / 8)) (by omega) (by omega) c195
            refine e_iconst 212 (v := (nI 0)) dX15_doesFit_211 rfl (by decide) ?_
            exact e_zret dX15_doesFit_212 rfl (Or.inl (by decide)) (by omega) (by omega) (⟨by rw [show fitF q ar = false by (rw [fitF, if_neg (fun z => z.elim (fun y => y (by omega)) (fun y => y h18)), if_pos (by omega)]; exact decide_eq_false (by omega))]; rfl, rfl⟩)
          · have k195 := j_ne_f (a := (ar.getD 1 0)) (b := (((wd q 3) + 7) / 8)) (by omega) (by omega) c195
            refine e_iload_n 199 dX15_doesFit_198 rfl rfl ?_
            refine e_iconst 200 (v := (nI 2)) dX15_doesFit_199 rfl (by decide) ?_
            refine e_aload_n 201 dX15_doesFit_200 rfl rfl ?_
            refine e_iconst 202 (v := (nI 1)) dX15_doesFit_201 rfl (by decide) ?_
            have b202 := gd_lt (i := 1) ha (by decide)
            refine v_iald 203 hA (k := 1) (x := (ar.getD 1 0)) dX15_doesFit_202 rfl (by omega) (by omega) rfl ?_
            refine e_iadd 204 (v := (nI (2 + (ar.getD 1 0)))) dX15_doesFit_203 rfl (nI_add 2 (ar.getD 1 0)) ?_
            refine e_icmp_ne 211 207 dX15_doesFit_204 rfl rfl (fun c204 => ?_) (fun c204 => ?_)
            · have k204 := j_ne_t (a := ar.length) (b := (2 + (ar.getD 1 0))) (by omega) (by omega) c204
              refine e_iconst 212 (v := (nI 0)) dX15_doesFit_211 rfl (by decide) ?_
              exact e_zret dX15_doesFit_212 rfl (Or.inl (by decide)) (by omega) (by omega) (⟨by rw [show fitF q ar = false by (rw [fitF, if_neg (fun z => z.elim (fun y => y (by omega)) (fun y => y h18)), if_pos (by omega)]; exact decide_eq_false (by omega))]; rfl, rfl⟩)
            · have k204 := j_ne_f (a := ar.length) (b := (2 + (ar.getD 1 0))) (by omega) (by omega) c204
              refine e_iconst 208 (v := (nI 1)) dX15_doesFit_207 rfl (by decide) ?_
              refine e_goto 212 dX15_doesFit_208 rfl ?_
              exact e_zret dX15_doesFit_212 rfl (Or.inr (by decide)) (by omega) (by omega) (⟨by rw [show fitF q ar = true by (rw [fitF, if_neg (fun z => z.elim (fun y => y (by omega)) (fun y => y h18)), if_pos (by omega)]; exact decide_eq_true (by omega))]; rfl, rfl⟩)
      · refine e_tableIn 213 (off := 188) dX15_doesFit_25 (by rw [nI_toInt (by omega)]; omega) (by rw [nI_toInt (by omega)]; omega) (by rcases s25 with s25 | s25 | s25 <;> rw [s25] <;> decide) rfl ?_
        have g9 : 5 ≤ q.length := by (rcases s25 with z | z | z; have := (sh_3 (Or.inl z) h18).1; omega; have := (sh_3 (Or.inr z) h18).1; omega; have := (sh_23 z h18).1; omega)
        refine e_iload_n 214 dX15_doesFit_213 rfl rfl ?_
        refine e_iconst 215 (v := (nI 2)) dX15_doesFit_214 rfl (by decide) ?_
        refine e_icmp_lt 244 218 dX15_doesFit_215 rfl rfl (fun c215 => ?_) (fun c215 => ?_)
        · have k215 := j_lt_t (a := ar.length) (b := 2) (by omega) (by omega) c215
          refine e_iconst 245 (v := (nI 0)) dX15_doesFit_244 rfl (by decide) ?_
          exact e_zret dX15_doesFit_245 rfl (Or.inl (by decide)) (by omega) (by omega) (⟨by rw [show fitF q ar = false by (rw [fitF, if_neg (fun z => z.elim (fun y => y (by omega)) (fun y => y h18)), if_neg (by omega), if_pos (by omega)]; exact decide_eq_false (by omega))]; rfl, rfl⟩)
        · have k215 := j_lt_f (a := ar.length) (b := 2) (by omega) (by omega) c215
          refine e_aload_n 219 dX15_doesFit_218 rfl rfl ?_
          refine e_iconst 220 (v := (nI 1)) dX15_doesFit_219 rfl (by decide) ?_
          have b220 := gd_lt (i := 1) ha (by decide)
          refine v_iald 221 hA (k := 1) (x := (ar.getD 1 0)) dX15_doesFit_220 rfl (by omega) (by omega) rfl ?_
          refine e_iconst 222 (v := (nI 2)) dX15_doesFit_221 rfl (by decide) ?_
          refine e_aload_n 223 dX15_doesFit_222 rfl rfl ?_
          refine e_iconst 224 (v := (nI 3)) dX15_doesFit_223 rfl (by decide) ?_
          refine u_callS 227 dX15_doesFit_224 rfl cs_X15_85 (u_X15_two hR (k := 3) (by omega) (by omega)) rfl rfl (Nat.le_of_ble_eq_true rfl) (by decide) ⟨by omega, by omega⟩ ?_
          have w224 := wd_lt (k := 3) hq
          refine e_imul 228 (v := (nI (2 * (wd q 3)))) dX15_doesFit_227 rfl (pk_mul 2 (wd q 3)) ?_
          refine e_icmp_ne 244 231 dX15_doesFit_228 rfl rfl (fun c228 => ?_) (fun c228 => ?_)
          · have k228 := j_ne_t (a := (ar.getD 1 0)) (b := (2 * (wd q 3))) (by omega) (by omega) c228
            refine e_iconst 245 (v := (nI 0)) dX15_doesFit_244 rfl (by decide) ?_
            exact e_zret dX15_doesFit_245 rfl (Or.inl (by decide)) (by omega) (by omega) (⟨by rw [show fitF q ar = false by (rw [fitF, if_neg (fun z => z.elim (fun y => y (by omega)) (fun y => y h18)), if_neg (by omega), if_pos (by omega)]; exact decide_eq_false (by omega))]; rfl, rfl⟩)
          · have k228 := j_ne_f (a := (ar.getD 1 0)) (b := (2 * (wd q 3))) (by omega) (by omega) c228
            refine e_iload_n 232 dX15_doesFit_231 rfl rfl ?_
            refine e_iconst 233 (v := (nI 2)) dX15_doesFit_232 rfl (by decide) ?_
            refine e_aload_n 234 dX15_doesFit_233 rfl rfl ?_
            refine e_iconst 235 (v := (nI 1)) dX15_doesFit_234 rfl (by decide) ?_
            have b235 := gd_lt (i := 1) ha (by decide)
            refine v_iald 236 hA (k := 1) (x := (ar.getD 1 0)) dX15_doesFit_235 rfl (by omega) (by omega) rfl ?_
            refine e_iadd 237 (v := (nI (2 + (ar.getD 1 0)))) dX15_doesFit_236 rfl (nI_add 2 (ar.getD 1 0)) ?_
            refine e_icmp_ne 244 240 dX15_doesFit_237 rfl rfl (fun c237 => ?_) (fun c237 => ?_)
            · have k237 := j_ne_t (a := ar.length) (b := (2 + (ar.getD 1 0))) (by omega) (by omega) c237
              refine e_iconst 245 (v := (nI 0)) dX15_doesFit_244 rfl (by decide) ?_
              exact e_zret dX15_doesFit_245 rfl (Or.inl (by decide)) (by omega) (by omega) (⟨by rw [show fitF q ar = false by (rw [fitF, if_neg (fun z => z.elim (fun y => y (by omega)) (fun y => y h18)), if_neg (by omega), if_pos (by omega)]; exact decide_eq_false (by omega))]; rfl, rfl⟩)
            · have k237 := j_ne_f (a := ar.length) (b := (2 + (ar.getD 1 0))) (by omega) (by omega) c237
              refine e_iconst 241 (v := (nI 1)) dX15_doesFit_240 rfl (by decide) ?_
              refine e_goto 245 dX15_doesFit_241 rfl ?_
              exact e_zret dX15_doesFit_245 rfl (Or.inr (by decide)) (by omega) (by omega) (⟨by rw [show fitF q ar = true by (rw [fitF, if_neg (fun z => z.elim (fun y => y (by omega)) (fun y => y h18)), if_neg (by omega), if_pos (by omega)]; exact decide_eq_true (by omega))]; rfl, rfl⟩)
      · refine e_tableIn 136 (off := 111) dX15_doesFit_25 (by rw [nI_toInt (by omega)]; omega) (by rw [nI_toInt (by omega)]; omega) (by rcases s25 with s25 | s25 | s25 | s25 <;> rw [s25] <;> decide) rfl ?_
        refine e_iload_n 137 dX15_doesFit_136 rfl rfl ?_
        refine e_iload_n 138 dX15_doesFit_137 rfl rfl ?_
        refine e_icmp_ne 154 141 dX15_doesFit_138 rfl rfl (fun c138 => ?_) (fun c138 => ?_)
        · have k138 := j_ne_t (a := ar.length) (b := q.length) (by omega) (by omega) c138
          refine e_iconst 155 (v := (nI 0)) dX15_doesFit_154 rfl (by decide) ?_
          exact e_zret dX15_doesFit_155 rfl (Or.inl (by decide)) (by omega) (by omega) (⟨by rw [show fitF q ar = false by (rw [fitF, if_neg (fun z => z.elim (fun y => y (by omega)) (fun y => y h18)), if_neg (by omega), if_neg (by omega), if_neg (by omega), if_neg (by omega), if_neg (by omega), if_neg (by omega), if_neg (by omega), if_neg (by omega), if_neg (by omega), if_neg (by omega), if_neg (by omega)]; rw [smF, decide_eq_false (by omega)]; rfl)]; rfl, rfl⟩)
        · have k138 := j_ne_f (a := ar.length) (b := q.length) (by omega) (by omega) c138
          refine e_aload_n 142 dX15_doesFit_141 rfl rfl ?_
          refine e_aload_n 143 dX15_doesFit_142 rfl rfl ?_
          refine e_iload_n 144 dX15_doesFit_143 rfl rfl ?_
          refine u_callS 147 dX15_doesFit_144 rfl cs_X15_330 (u_X15_isBegun hR hqn hq hA han ha (by omega) (by omega)) rfl rfl (Nat.le_of_ble_eq_true rfl) (by decide) ⟨by omega, by omega⟩ ?_
          refine e_if_eq 154 150 dX15_doesFit_147 rfl rfl (fun c147 => ?_) (fun c147 => ?_)
          · have k147 := jb_eq_t c147
            refine e_iconst 155 (v := (nI 0)) dX15_doesFit_154 rfl (by decide) ?_
            exact e_zret dX15_doesFit_155 rfl (Or.inl (by decide)) (by omega) (by omega) (⟨by rw [show fitF q ar = false by (rw [fitF, if_neg (fun z => z.elim (fun y => y (by omega)) (fun y => y h18)), if_neg (by omega), if_neg (by omega), if_neg (by omega), if_neg (by omega), if_neg (by omega), if_neg (by omega), if_neg (by omega), if_neg (by omega), if_neg (by omega), if_neg (by omega), if_neg (by omega)]; rw [smF, decide_eq_true (by omega), show bgn ar q q.length = false by (rw [← k138]; exact k147)]; rfl)]; rfl, rfl⟩)
          · have k147 := jb_eq_f c147
            refine e_iconst 151 (v := (nI 1)) dX15_doesFit_150 rfl (by decide) ?_
            refine e_goto 155 dX15_doesFit_151 rfl ?_
            exact e_zret dX15_doesFit_155 rfl (Or.inr (by decide)) (by omega) (by omega) (⟨by rw [show fitF q ar = true by (rw [fitF, if_neg (fun z => z.elim (fun y => y (by omega)) (fun y => y h18)), if_neg (by omega), if_neg (by omega), if_neg (by omega), if_neg (by omega), if_neg (by omega), if_neg (by omega), if_neg (by omega), if_neg (by omega), if_neg (by omega), if_neg (by omega), if_neg (by omega)]; rw [smF, decide_eq_true (by omega), show bgn ar q q.length = true by (rw [← k138]; exact k147)]; rfl)]; rfl, rfl⟩)
      · refine e_tableIn 246 (off := 221) dX15_doesFit_25 (by rw [nI_toInt (by omega)]; omega) (by rw [nI_toInt (by omega)]; omega) (by rw [s25]; decide) rfl ?_
        refine e_iload_n 247 dX15_doesFit_246 rfl rfl ?_
        refine e_iconst 248 (v := (nI 2)) dX15_doesFit_247 rfl (by decide) ?_
        refine e_icmp_ne 255 251 dX15_doesFit_248 rfl rfl (fun c248 => ?_) (fun c248 => ?_)
        · have k248 := j_ne_t (a := ar.length) (b := 2) (by omega) (by omega) c248
          refine e_iconst 256 (v := (nI 0)) dX15_doesFit_255 rfl (by decide) ?_
          exact e_zret dX15_doesFit_256 rfl (Or.inl (by decide)) (by omega) (by omega) (⟨by rw [show fitF q ar = false by (rw [fitF, if_neg (fun z => z.elim (fun y => y (by omega)) (fun y => y h18)), if_neg (by omega), if_neg (by omega), if_pos (by omega)]; exact decide_eq_false (by omega))]; rfl, rfl⟩)
        · have k248 := j_ne_f (a := ar.length) (b := 2) (by omega) (by omega) c248
          refine e_iconst 252 (v := (nI 1)) dX15_doesFit_251 rfl (by decide) ?_
          refine e_goto 256 dX15_doesFit_252 rfl ?_
          exact e_zret dX15_doesFit_256 rfl (Or.inr (by decide)) (by omega) (by omega) (⟨by rw [show fitF q ar = true by (rw [fitF, if_neg (fun z => z.elim (fun y => y (by omega)) (fun y => y h18)), if_neg (by omega), if_neg (by omega), if_pos (by omega)]; exact decide_eq_true (by omega))]; rfl, rfl⟩)
      · refine e_tableIn 257 (off := 232) dX15_doesFit_25 (by rw [nI_toInt (by omega)]; omega) (by rw [nI_toInt (by omega)]; omega) (by rw [s25]; decide) rfl ?_
        have g9 := sh_8 (q := q) (by omega) h18
        refine e_aload_n 258 dX15_doesFit_257 rfl rfl ?_
        refine e_iconst 259 (v := (nI 1)) dX15_doesFit_258 rfl (by decide) ?_
        refine u_callS 262 dX15_doesFit_259 rfl cs_X15_85 (u_X15_two hR (k := 1) (by omega) (by omega)) rfl rfl (Nat.le_of_ble_eq_true rfl) (by decide) ⟨by omega, by omega⟩ ?_
        have w259 := wd_lt (k := 1) hq
        refine e_istore 264 (ls' := [some (.ref b), some (.int (nI q.length)), some (.ref a), some (.int (nI ar.length)), some (.int (nI (q.getD 0 0))), some (.int (nI (wd q 1)))]) dX15_doesFit_262 rfl (by decide) rfl ?_
        refine e_iload 266 dX15_doesFit_264 rfl rfl ?_
        refine e_if_eq 289 269 dX15_doesFit_266 rfl rfl (fun c266 => ?_) (fun c266 => ?_)
        · have k266 := j_eq0_t (a := (wd q 1)) (by omega) c266
          refine e_iload_n 290 dX15_doesFit_289 rfl rfl ?_
          refine e_iload_n 291 dX15_doesFit_290 rfl rfl ?_
          refine e_icmp_ne 307 294 dX15_doesFit_291 rfl rfl (fun c291 => ?_) (fun c291 => ?_)
          · have k291 := j_ne_t (a := ar.length) (b := q.length) (by omega) (by omega) c291
            refine e_iconst 308 (v := (nI 0)) dX15_doesFit_307 rfl (by decide) ?_
            exact e_zret dX15_doesFit_308 rfl (Or.inl (by decide)) (by omega) (by omega) (⟨by rw [show fitF q ar = false by (rw [fitF, if_neg (fun z => z.elim (fun y => y (by omega)) (fun y => y h18)), if_neg (by omega), if_neg (by omega), if_neg (by omega), if_pos (by omega)]; rw [dfF, if_pos (by omega)]; rw [smF, decide_eq_false (by omega)]; rfl)]; rfl, rfl⟩)
          · have k291 := j_ne_f (a := ar.length) (b := q.length) (by omega) (by omega) c291
            refine e_aload_n 295 dX15_doesFit_294 rfl rfl ?_
            refine e_aload_n 296 dX15_doesFit_295 rfl rfl ?_
            refine e_iload_n 297 dX15_doesFit_296 rfl rfl ?_
            refine u_callS 300 dX15_doesFit_297 rfl cs_X15_330 (u_X15_isBegun hR hqn hq hA han ha (by omega) (by omega)) rfl rfl (Nat.le_of_ble_eq_true rfl) (by decide) ⟨by omega, by omega⟩ ?_
            refine e_if_eq 307 303 dX15_doesFit_300 rfl rfl (fun c300 => ?_) (fun c300 => ?_)
            · have k300 := jb_eq_t c300
              refine e_iconst 308 (v := (nI 0)) dX15_doesFit_307 rfl (by decide) ?_
              exact e_zret dX15_doesFit_308 rfl (Or.inl (by decide)) (by omega) (by omega) (⟨by rw [show fitF q ar = false by (rw [fitF, if_neg (fun z => z.elim (fun y => y (by omega)) (fun y => y h18)), if_neg (by omega), if_neg (by omega), if_neg (by omega), if_pos (by omega)]; rw [dfF, if_pos (by omega)]; rw [smF, decide_eq_true (by omega), show bgn ar q q.length = false by (rw [← k291]; exact k300)]; rfl)]; rfl, rfl⟩)
            · have k300 := jb_eq_f c300
              refine e_iconst 304 (v := (nI 1)) dX15_doesFit_303 rfl (by decide) ?_
              refine e_goto 308 dX15_doesFit_304 rfl ?_
              exact e_zret dX15_doesFit_308 rfl (Or.inr (by decide)) (by omega) (by omega) (⟨by rw [show fitF q ar = true by (rw [fitF, if_neg (fun z => z.elim (fun y => y (by omega)) (fun y => y h18)), if_neg (by omega), if_neg (by omega), if_neg (by omega), if_pos (by omega)]; rw [dfF, if_pos (by omega)]; rw [smF, decide_eq_true (by omega), show bgn ar q q.length = true by (rw [← k291]; exact k300)]; rfl)]; rfl, rfl⟩)
        · have k266 := j_eq0_f (a := (wd q 1)) (by omega) c266
          refine e_iload 271 dX15_doesFit_269 rfl rfl ?_
          refine e_iconst 272 (v := (nI 1)) dX15_doesFit_271 rfl (by decide) ?_
          refine e_icmp_eq 289 275 dX15_doesFit_272 rfl rfl (fun c272 => ?_) (fun c272 => ?_)
          · have k272 := j_eq_t (a := (wd q 1)) (b := 1) (by omega) (by omega) c272
            refine e_iload_n 290 dX15_doesFit_289 rfl rfl ?_
            refine e_iload_n 291 dX15_doesFit_290 rfl rfl ?_
            refine e_icmp_ne 307 294 dX15_doesFit_291 rfl rfl (fun c291 => ?_) (fun c291 => ?_)
            · have k291 := j_ne_t (a := ar.length) (b := q.length) (by omega) (by omega) c291
              refine e_iconst 308 (v := (nI 0)) dX15_doesFit_307 rfl (by decide) ?_
              exact e_zret dX15_doesFit_308 rfl (Or.inl (by decide)) (by omega) (by omega) (⟨by rw [show fitF q ar = false by (rw [fitF, if_neg (fun z => z.elim (fun y => y (by omega)) (fun y => y h18)), if_neg (by omega), if_neg (by omega), if_neg (by omega), if_pos (by omega)]; rw [dfF, if_pos (by omega)]; rw [smF, decide_eq_false (by omega)]; rfl)]; rfl, rfl⟩)
            · have k291 := j_ne_f (a := ar.length) (b := q.length) (by omega) (by omega) c291
              refine e_aload_n 295 dX15_doesFit_294 rfl rfl ?_
              refine e_aload_n 296 dX15_doesFit_295 rfl rfl ?_
              refine e_iload_n 297 dX15_doesFit_296 rfl rfl ?_
              refine u_callS 300 dX15_doesFit_297 rfl cs_X15_330 (u_X15_isBegun hR hqn hq hA han ha (by omega) (by omega)) rfl rfl (Nat.le_of_ble_eq_true rfl) (by decide) ⟨by omega, by omega⟩ ?_
              refine e_if_eq 307 303 dX15_doesFit_300 rfl rfl (fun c300 => ?_) (fun c300 => ?_)
              · have k300 := jb_eq_t c300
                refine e_iconst 308 (v := (nI 0)) dX15_doesFit_307 rfl (by decide) ?_
                exact e_zret dX15_doesFit_308 rfl (Or.inl (by decide)) (by omega) (by omega) (⟨by rw [show fitF q ar = false by (rw [fitF, if_neg (fun z => z.elim (fun y => y (by omega)) (fun y => y h18)), if_neg (by omega), if_neg (by omega), if_neg (by omega), if_pos (by omega)]; rw [dfF, if_pos (by omega)]; rw [smF, decide_eq_true (by omega), show bgn ar q q.length = false by (rw [← k291]; exact k300)]; rfl)]; rfl, rfl⟩)
              · have k300 := jb_eq_f c300
                refine e_iconst 304 (v := (nI 1)) dX15_doesFit_303 rfl (by decide) ?_
                refine e_goto 308 dX15_doesFit_304 rfl ?_
                exact e_zret dX15_doesFit_308 rfl (Or.inr (by decide)) (by omega) (by omega) (⟨by rw [show fitF q ar = true by (rw [fitF, if_neg (fun z => z.elim (fun y => y (by omega)) (fun y => y h18)), if_neg (by omega), if_neg (by omega), if_neg (by omega), if_pos (by omega)]; rw [dfF, if_pos (by omega)]; rw [smF, decide_eq_true (by omega), show bgn ar q q.length = true by (rw [← k291]; exact k300)]; rfl)]; rfl, rfl⟩)
          · have k272 := j_eq_f (a := (wd q 1)) (b := 1) (by omega) (by omega) c272
            refine e_iload 277 dX15_doesFit_275 rfl rfl ?_
            refine e_bipush 279 (v := (nI 10)) dX15_doesFit_277 rfl (by decide) ?_
            refine e_icmp_eq 289 282 dX15_doesFit_279 rfl rfl (fun c279 => ?_) (fun c279 => ?_)
            · have k279 := j_eq_t (a := (wd q 1)) (b := 10) (by omega) (by omega) c279
              refine e_iload_n 290 dX15_doesFit_289 rfl rfl ?_
              refine e_iload_n 291 dX15_doesFit_290 rfl rfl ?_
              refine e_icmp_ne 307 294 dX15_doesFit_291 rfl rfl (fun c291 => ?_) (fun c291 => ?_)
              · have k291 := j_ne_t (a := ar.length) (b := q.length) (by omega) (by omega) c291
                refine e_iconst 308 (v := (nI 0)) dX15_doesFit_307 rfl (by decide) ?_
                exact e_zret dX15_doesFit_308 rfl (Or.inl (by decide)) (by omega) (by omega) (⟨by rw [show fitF q ar = false by (rw [fitF, if_neg (fun z => z.elim (fun y => y (by omega)) (fun y => y h18)), if_neg (by omega), if_neg (by omega), if_neg (by omega), if_pos (by omega)]; rw [dfF, if_pos (by omega)]; rw [smF, decide_eq_false (by omega)]; rfl)]; rfl, rfl⟩)
              · have k291 := j_ne_f (a := ar.length) (b := q.length) (by omega) (by omega) c291
                refine e_aload_n 295 dX15_doesFit_294 rfl rfl ?_
                refine e_aload_n 296 dX15_doesFit_295 rfl rfl ?_
                refine e_iload_n 297 dX15_doesFit_296 rfl rfl ?_
                refine u_callS 300 dX15_doesFit_297 rfl cs_X15_330 (u_X15_isBegun hR hqn hq hA han ha (by omega) (by omega)) rfl rfl (Nat.le_of_ble_eq_true rfl) (by decide) ⟨by omega, by omega⟩ ?_
                refine e_if_eq 307 303 dX15_doesFit_300 rfl rfl (fun c300 => ?_) (fun c300 => ?_)
                · have k300 := jb_eq_t c300
                  refine e_iconst 308 (v := (nI 0)) dX15_doesFit_307 rfl (by decide) ?_
                  exact e_zret dX15_doesFit_308 rfl (Or.inl (by decide)) (by omega) (by omega) (⟨by rw [show fitF q ar = false by (rw [fitF, if_neg (fun z => z.elim (fun y => y (by omega)) (fun y => y h18)), if_neg (by omega), if_neg (by omega), if_neg (by omega), if_pos (by omega)]; rw [dfF, if_pos (by omega)]; rw [smF, decide_eq_true (by omega), show bgn ar q q.length = false by (rw [← k291]; exact k300)]; rfl)]; rfl, rfl⟩)
                · have k300 := jb_eq_f c300
                  refine e_iconst 304 (v := (nI 1)) dX15_doesFit_303 rfl (by decide) ?_
                  refine e_goto 308 dX15_doesFit_304 rfl ?_
                  exact e_zret dX15_doesFit_308 rfl (Or.inr (by decide)) (by omega) (by omega) (⟨by rw [show fitF q ar = true by (rw [fitF, if_neg (fun z => z.elim (fun y => y (by omega)) (fun y => y h18)), if_neg (by omega), if_neg (by omega), if_neg (by omega), if_pos (by omega)]; rw [dfF, if_pos (by omega)]; rw [smF, decide_eq_true (by omega), show bgn ar q q.length = true by (rw [← k291]; exact k300)]; rfl)]; rfl, rfl⟩)
            · have k279 := j_eq_f (a := (wd q 1)) (b := 10) (by omega) (by omega) c279
              refine e_iload 284 dX15_doesFit_282 rfl rfl ?_
              refine e_bipush 286 (v := (nI 20)) dX15_doesFit_284 rfl (by decide) ?_
              refine e_icmp_ne 309 289 dX15_doesFit_286 rfl rfl (fun c286 => ?_) (fun c286 => ?_)
              · have k286 := j_ne_t (a := (wd q 1)) (b := 20) (by omega) (by omega) c286
                refine e_iload 311 dX15_doesFit_309 rfl rfl ?_
                refine e_iconst 312 (v := (nI 4)) dX15_doesFit_311 rfl (by decide) ?_
                refine e_icmp_eq 333 315 dX15_doesFit_312 rfl rfl (fun c312 => ?_) (fun c312 => ?_)
                · have k312 := j_eq_t (a := (wd q 1)) (b := 4) (by omega) (by omega) c312
                  refine e_iconst 334 (v := (nI 0)) dX15_doesFit_333 rfl (by decide) ?_
                  exact e_zret dX15_doesFit_334 rfl (Or.inl (by decide)) (by omega) (by omega) (⟨by rw [show fitF q ar = false by (rw [fitF, if_neg (fun z => z.elim (fun y => y (by omega)) (fun y => y h18)), if_neg (by omega), if_neg (by omega), if_neg (by omega), if_pos (by omega)]; rw [dfF, if_neg (by omega)]; rw [decide_eq_false (by omega)]; rfl)]; rfl, rfl⟩)
                · have k312 := j_eq_f (a := (wd q 1)) (b := 4) (by omega) (by omega) c312
                  refine e_iload_n 316 dX15_doesFit_315 rfl rfl ?_
                  refine e_iconst 317 (v := (nI 5)) dX15_doesFit_316 rfl (by decide) ?_
                  refine e_icmp_ne 333 320 dX15_doesFit_317 rfl rfl (fun c317 => ?_) (fun c317 => ?_)
                  · have k317 := j_ne_t (a := ar.length) (b := 5) (by omega) (by omega) c317
                    refine e_iconst 334 (v := (nI 0)) dX15_doesFit_333 rfl (by decide) ?_
                    exact e_zret dX15_doesFit_334 rfl (Or.inl (by decide)) (by omega) (by omega) (⟨by rw [show fitF q ar = false by (rw [fitF, if_neg (fun z => z.elim (fun y => y (by omega)) (fun y => y h18)), if_neg (by omega), if_neg (by omega), if_neg (by omega), if_pos (by omega)]; rw [dfF, if_neg (by omega)]; rw [decide_eq_false (by omega)]; rfl)]; rfl, rfl⟩)
                  · have k317 := j_ne_f (a := ar.length) (b := 5) (by omega) (by omega) c317
                    refine e_aload_n 321 dX15_doesFit_320 rfl rfl ?_
                    refine e_aload_n 322 dX15_doesFit_321 rfl rfl ?_
                    refine e_iconst 323 (v := (nI 3)) dX15_doesFit_322 rfl (by decide) ?_
                    refine u_callS 326 dX15_doesFit_323 rfl cs_X15_330 (u_X15_isBegun hR hqn hq hA han ha (by omega) (by omega)) rfl rfl (Nat.le_of_ble_eq_true rfl) (by decide) ⟨by omega, by omega⟩ ?_
                    refine e_if_eq 333 329 dX15_doesFit_326 rfl rfl (fun c326 => ?_) (fun c326 => ?_)
                    · have k326 := jb_eq_t c326
                      refine e_iconst 334 (v := (nI 0)) dX15_doesFit_333 rfl (by decide) ?_
                      exact e_zret dX15_doesFit_334 rfl (Or.inl (by decide)) (by omega) (by omega) (⟨by rw [show fitF q ar = false by (rw [fitF, if_neg (fun z => z.elim (fun y => y (by omega)) (fun y => y h18)), if_neg (by omega), if_neg (by omega), if_neg (by omega), if_pos (by omega)]; rw [dfF, if_neg (by omega)]; rw [k326, decide_eq_true (by omega)]; rfl)]; rfl, rfl⟩)
                    · have k326 := jb_eq_f c326
                      refine e_iconst 330 (v := (nI 1)) dX15_doesFit_329 rfl (by decide) ?_
                      refine e_goto 334 dX15_doesFit_330 rfl ?_
                      exact e_zret dX15_doesFit_334 rfl (Or.inr (by decide)) (by omega) (by omega) (⟨by rw [show fitF q ar = true by (rw [fitF, if_neg (fun z => z.elim (fun y => y (by omega)) (fun y => y h18)), if_neg (by omega), if_neg (by omega), if_neg (by omega), if_pos (by omega)]; rw [dfF, if_neg (by omega)]; rw [k326, decide_eq_true (by omega)]; rfl)]; rfl, rfl⟩)
              · have k286 := j_ne_f (a := (wd q 1)) (b := 20) (by omega) (by omega) c286
                refine e_iload_n 290 dX15_doesFit_289 rfl rfl ?_
                refine e_iload_n 291 dX15_doesFit_290 rfl rfl ?_
                refine e_icmp_ne 307 294 dX15_doesFit_291 rfl rfl (fun c291 => ?_) (fun c291 => ?_)
                · have k291 := j_ne_t (a := ar.length) (b := q.length) (by omega) (by omega) c291
                  refine e_iconst 308 (v := (nI 0)) dX15_doesFit_307 rfl (by decide) ?_
                  exact e_zret dX15_doesFit_308 rfl (Or.inl (by decide)) (by omega) (by omega) (⟨by rw [show fitF q ar = false by (rw [fitF, if_neg (fun z => z.elim (fun y => y (by omega)) (fun y => y h18)), if_neg (by omega), if_neg (by omega), if_neg (by omega), if_pos (by omega)]; rw [dfF, if_pos (by omega)]; rw [smF, decide_eq_false (by omega)]; rfl)]; rfl, rfl⟩)
                · have k291 := j_ne_f (a := ar.length) (b := q.length) (by omega) (by omega) c291
                  refine e_aload_n 295 dX15_doesFit_294 rfl rfl ?_
                  refine e_aload_n 296 dX15_doesFit_295 rfl rfl ?_
                  refine e_iload_n 297 dX15_doesFit_296 rfl rfl ?_
                  refine u_callS 300 dX15_doesFit_297 rfl cs_X15_330 (u_X15_isBegun hR hqn hq hA han ha (by omega) (by omega)) rfl rfl (Nat.le_of_ble_eq_true rfl) (by decide) ⟨by omega, by omega⟩ ?_
                  refine e_if_eq 307 303 dX15_doesFit_300 rfl rfl (fun c300 => ?_) (fun c300 => ?_)
                  · have k300 := jb_eq_t c300
                    refine e_iconst 308 (v := (nI 0)) dX15_doesFit_307 rfl (by decide) ?_
                    exact e_zret dX15_doesFit_308 rfl (Or.inl (by decide)) (by omega) (by omega) (⟨by rw [show fitF q ar = false by (rw [fitF, if_neg (fun z => z.elim (fun y => y (by omega)) (fun y => y h18)), if_neg (by omega), if_neg (by omega), if_neg (by omega), if_pos (by omega)]; rw [dfF, if_pos (by omega)]; rw [smF, decide_eq_true (by omega), show bgn ar q q.length = false by (rw [← k291]; exact k300)]; rfl)]; rfl, rfl⟩)
                  · have k300 := jb_eq_f c300
                    refine e_iconst 304 (v := (nI 1)) dX15_doesFit_303 rfl (by decide) ?_
                    refine e_goto 308 dX15_doesFit_304 rfl ?_
                    exact e_zret dX15_doesFit_308 rfl (Or.inr (by decide)) (by omega) (by omega) (⟨by rw [show fitF q ar = true by (rw [fitF, if_neg (fun z => z.elim (fun y => y (by omega)) (fun y => y h18)), if_neg (by omega), if_neg (by omega), if_neg (by omega), if_pos (by omega)]; rw [dfF, if_pos (by omega)]; rw [smF, decide_eq_true (by omega), show bgn ar q q.length = true by (rw [← k291]; exact k300)]; rfl)]; rfl, rfl⟩)
      · refine e_tableIn 485 (off := 460) dX15_doesFit_25 (by rw [nI_toInt (by omega)]; omega) (by rw [nI_toInt (by omega)]; omega) (by rcases s25 with s25 | s25 | s25 | s25 | s25 | s25 <;> rw [s25] <;> decide) rfl ?_
        have t18 := sh_told h18
        have g9 := sh_43 (q := q) (by omega) h18
        refine e_iload_n 486 dX15_doesFit_485 rfl rfl ?_
        refine e_bipush 488 (v := (nI 7)) dX15_doesFit_486 rfl (by decide) ?_
        refine e_icmp_lt 512 491 dX15_doesFit_488 rfl rfl (fun c488 => ?_) (fun c488 => ?_)
        · have k488 := j_lt_t (a := ar.length) (b := 7) (by omega) (by omega) c488
          refine e_iconst 513 (v := (nI 0)) dX15_doesFit_512 rfl (by decide) ?_
          exact e_zret dX15_doesFit_513 rfl (Or.inl (by decide)) (by omega) (by omega) (⟨by rw [show fitF q ar = false by (rw [fitF, if_neg (fun z => z.elim (fun y => y (by omega)) (fun y => y h18)), if_neg (by omega), if_neg (by omega), if_neg (by omega), if_neg (by omega), if_neg (by omega), if_neg (by omega), if_neg (by omega), if_neg (by omega), if_neg (by omega), if_neg (by omega), if_pos (by omega)]; rw [decide_eq_false (by omega)]; rfl)]; rfl, rfl⟩)
        · have k488 := j_lt_f (a := ar.length) (b := 7) (by omega) (by omega) c488
          refine e_aload_n 492 dX15_doesFit_491 rfl rfl ?_
          refine e_aload_n 493 dX15_doesFit_492 rfl rfl ?_
          refine e_iconst 494 (v := (nI 3)) dX15_doesFit_493 rfl (by decide) ?_
          refine u_callS 497 dX15_doesFit_494 rfl cs_X15_330 (u_X15_isBegun hR hqn hq hA han ha (by omega) (by omega)) rfl rfl (Nat.le_of_ble_eq_true rfl) (by decide) ⟨by omega, by omega⟩ ?_
          refine e_if_eq 512 500 dX15_doesFit_497 rfl rfl (fun c497 => ?_) (fun c497 => ?_)
          · have k497 := jb_eq_t c497
            refine e_iconst 513 (v := (nI 0)) dX15_doesFit_512 rfl (by decide) ?_
            exact e_zret dX15_doesFit_513 rfl (Or.inl (by decide)) (by omega) (by omega) (⟨by rw [show fitF q ar = false by (rw [fitF, if_neg (fun z => z.elim (fun y => y (by omega)) (fun y => y h18)), if_neg (by omega), if_neg (by omega), if_neg (by omega), if_neg (by omega), if_neg (by omega), if_neg (by omega), if_neg (by omega), if_neg (by omega), if_neg (by omega), if_neg (by omega), if_pos (by omega)]; rw [k497, decide_eq_true (by omega)]; rfl)]; rfl, rfl⟩)
          · have k497 := jb_eq_f c497
            refine e_aload_n 501 dX15_doesFit_500 rfl rfl ?_
            refine e_iload_n 502 dX15_doesFit_501 rfl rfl ?_
            refine u_callS 505 dX15_doesFit_502 rfl cs_X15_337 (u_X15_doNamesFit hA han ha (by omega)) rfl rfl (Nat.le_of_ble_eq_true rfl) (by decide) ⟨by omega, by omega⟩ ?_
            refine e_if_eq 512 508 dX15_doesFit_505 rfl rfl (fun c505 => ?_) (fun c505 => ?_)
            · have k505 := jb_eq_t c505
              refine e_iconst 513 (v := (nI 0)) dX15_doesFit_512 rfl (by decide) ?_
              exact e_zret dX15_doesFit_513 rfl (Or.inl (by decide)) (by omega) (by omega) (⟨by rw [show fitF q ar = false by (rw [fitF, if_neg (fun z => z.elim (fun y => y (by omega)) (fun y => y h18)), if_neg (by omega), if_neg (by omega), if_neg (by omega), if_neg (by omega), if_neg (by omega), if_neg (by omega), if_neg (by omega), if_neg (by omega), if_neg (by omega), if_neg (by omega), if_pos (by omega)]; rw [k497, k505, decide_eq_true (by omega)]; rfl)]; rfl, rfl⟩)
            · have k505 := jb_eq_f c505
              refine e_iconst 509 (v := (nI 1)) dX15_doesFit_508 rfl (by decide) ?_
              refine e_goto 513 dX15_doesFit_509 rfl ?_
              exact e_zret dX15_doesFit_513 rfl (Or.inr (by decide)) (by omega) (by omega) (⟨by rw [show fitF q ar = true by (rw [fitF, if_neg (fun z => z.elim (fun y => y (by omega)) (fun y => y h18)), if_neg (by omega), if_neg (by omega), if_neg (by omega), if_neg (by omega), if_neg (by omega), if_neg (by omega), if_neg (by omega), if_neg (by omega), if_neg (by omega), if_neg (by omega), if_pos (by omega)]; rw [k497, k505, decide_eq_true (by omega)]; rfl)]; rfl, rfl⟩)
      · refine e_tableIn 335 (off := 310) dX15_doesFit_25 (by rw [nI_toInt (by omega)]; omega) (by rw [nI_toInt (by omega)]; omega) (by rw [s25]; decide) rfl ?_
        refine e_iload_n 336 dX15_doesFit_335 rfl rfl ?_
        refine e_iconst 337 (v := (nI 5)) dX15_doesFit_336 rfl (by decide) ?_
        refine e_icmp_ne 344 340 dX15_doesFit_337 rfl rfl (fun c337 => ?_) (fun c337 => ?_)
        · have k337 := j_ne_t (a := ar.length) (b := 5) (by omega) (by omega) c337
          refine e_iconst 345 (v := (nI 0)) dX15_doesFit_344 rfl (by decide) ?_
          exact e_zret dX15_doesFit_345 rfl (Or.inl (by decide)) (by omega) (by omega) (⟨by rw [show fitF q ar = false by (rw [fitF, if_neg (fun z => z.elim (fun y => y (by omega)) (fun y => y h18)), if_neg (by omega), if_neg (by omega), if_neg (by omega), if_neg (by omega), if_pos (by omega)]; exact decide_eq_false (by omega))]; rfl, rfl⟩)
        · have k337 := j_ne_f (a := ar.length) (b := 5) (by omega) (by omega) c337
          refine e_iconst 341 (v := (nI 1)) dX15_doesFit_340 rfl (by decide) ?_
          refine e_goto 345 dX15_doesFit_341 rfl ?_
          exact e_zret dX15_doesFit_345 rfl (Or.inr (by decide)) (by omega) (by omega) (⟨by rw [show fitF q ar = true by (rw [fitF, if_neg (fun z => z.elim (fun y => y (by omega)) (fun y => y h18)), if_neg (by omega), if_neg (by omega), if_neg (by omega), if_neg (by omega), if_pos (by omega)]; exact decide_eq_true (by omega))]; rfl, rfl⟩)
      · refine e_tableIn 346 (off := 321) dX15_doesFit_25 (by rw [nI_toInt (by omega)]; omega) (by rw [nI_toInt (by omega)]; omega) (by rw [s25]; decide) rfl ?_
        refine e_iload_n 347 dX15_doesFit_346 rfl rfl ?_
        refine e_iconst 348 (v := (nI 2)) dX15_doesFit_347 rfl (by decide) ?_
        refine e_icmp_lt 377 351 dX15_doesFit_348 rfl rfl (fun c348 => ?_) (fun c348 => ?_)
        · have k348 := j_lt_t (a := ar.length) (b := 2) (by omega) (by omega) c348
          refine e_iconst 378 (v := (nI 0)) dX15_doesFit_377 rfl (by decide) ?_
          exact e_zret dX15_doesFit_378 rfl (Or.inl (by decide)) (by omega) (by omega) (⟨by rw [show fitF q ar = false by (rw [fitF, if_neg (fun z => z.elim (fun y => y (by omega)) (fun y => y h18)), if_neg (by omega), if_neg (by omega), if_neg (by omega), if_neg (by omega), if_neg (by omega), if_pos (by omega)]; exact decide_eq_false (by omega))]; rfl, rfl⟩)
        · have k348 := j_lt_f (a := ar.length) (b := 2) (by omega) (by omega) c348
          refine e_aload_n 352 dX15_doesFit_351 rfl rfl ?_
          refine e_iconst 353 (v := (nI 1)) dX15_doesFit_352 rfl (by decide) ?_
          have b353 := gd_lt (i := 1) ha (by decide)
          refine v_iald 354 hA (k := 1) (x := (ar.getD 1 0)) dX15_doesFit_353 rfl (by omega) (by omega) rfl ?_
          refine e_bipush 356 (v := (nI 6)) dX15_doesFit_354 rfl (by decide) ?_
          refine e_bipush 358 (v := (nI 70)) dX15_doesFit_356 rfl (by decide) ?_
          refine u_callS 361 dX15_doesFit_358 rfl cs_X15_81 (u_inN (by omega) (by omega) (by omega)) rfl rfl (Nat.le_of_ble_eq_true rfl) (by decide) ⟨by omega, by omega⟩ ?_
          refine e_if_eq 377 364 dX15_doesFit_361 rfl rfl (fun c361 => ?_) (fun c361 => ?_)
          · have k361 := jin_eq_t c361
            refine e_iconst 378 (v := (nI 0)) dX15_doesFit_377 rfl (by decide) ?_
            exact e_zret dX15_doesFit_378 rfl (Or.inl (by decide)) (by omega) (by omega) (⟨by rw [show fitF q ar = false by (rw [fitF, if_neg (fun z => z.elim (fun y => y (by omega)) (fun y => y h18)), if_neg (by omega), if_neg (by omega), if_neg (by omega), if_neg (by omega), if_neg (by omega), if_pos (by omega)]; exact decide_eq_false (by omega))]; rfl, rfl⟩)
          · have k361 := jin_eq_f c361
            refine e_iload_n 365 dX15_doesFit_364 rfl rfl ?_
            refine e_iconst 366 (v := (nI 2)) dX15_doesFit_365 rfl (by decide) ?_
            refine e_aload_n 367 dX15_doesFit_366 rfl rfl ?_
            refine e_iconst 368 (v := (nI 1)) dX15_doesFit_367 rfl (by decide) ?_
            have b368 := gd_lt (i := 1) ha (by decide)
            refine v_iald 369 hA (k := 1) (x := (ar.getD 1 0)) dX15_doesFit_368 rfl (by omega) (by omega) rfl ?_
            refine e_iadd 370 (v := (nI (2 + (ar.getD 1 0)))) dX15_doesFit_369 rfl (nI_add 2 (ar.getD 1 0)) ?_
            refine e_icmp_ne 377 373 dX15_doesFit_370 rfl rfl (fun c370 => ?_) (fun c370 => ?_)
            · have k370 := j_ne_t (a := ar.length) (b := (2 + (ar.getD 1 0))) (by omega) (by omega) c370
              refine e_iconst 378 (v := (nI 0)) dX15_doesFit_377 rfl (by decide) ?_
              exact e_zret dX15_doesFit_378 rfl (Or.inl (by decide)) (by omega) (by omega) (⟨by rw [show fitF q ar = false by (rw [fitF, if_neg (fun z => z.elim (fun y => y (by omega)) (fun y => y h18)), if_neg (by omega), if_neg (by omega), if_neg (by omega), if_neg (by omega), if_neg (by omega), if_pos (by omega)]; exact decide_eq_false (by omega))]; rfl, rfl⟩)
            · have k370 := j_ne_f (a := ar.length) (b := (2 + (ar.getD 1 0))) (by omega) (by omega) c370
              refine e_iconst 374 (v := (nI 1)) dX15_doesFit_373 rfl (by decide) ?_
              refine e_goto 378 dX15_doesFit_374 rfl ?_
              exact e_zret dX15_doesFit_378 rfl (Or.inr (by decide)) (by omega) (by omega) (⟨by rw [show fitF q ar = true by (rw [fitF, if_neg (fun z => z.elim (fun y => y (by omega)) (fun y => y h18)), if_neg (by omega), if_neg (by omega), if_neg (by omega), if_neg (by omega), if_neg (by omega), if_pos (by omega)]; exact decide_eq_true (by omega))]; rfl, rfl⟩)
      · refine e_tableIn 156 (off := 131) dX15_doesFit_25 (by rw [nI_toInt (by omega)]; omega) (by rw [nI_toInt (by omega)]; omega) (by rcases s25 with s25 | s25 <;> rw [s25] <;> decide) rfl ?_
        have g9 : 6 ≤ q.length := by (rcases s25 with z | z; exact (sh_15 z h18).1; exact (sh_16 z h18).1)
        refine e_iload_n 157 dX15_doesFit_156 rfl rfl ?_
        refine e_iconst 158 (v := (nI 5)) dX15_doesFit_157 rfl (by decide) ?_
        refine e_icmp_ne 174 161 dX15_doesFit_158 rfl rfl (fun c158 => ?_) (fun c158 => ?_)
        · have k158 := j_ne_t (a := ar.length) (b := 5) (by omega) (by omega) c158
          refine e_iconst 175 (v := (nI 0)) dX15_doesFit_174 rfl (by decide) ?_
          exact e_zret dX15_doesFit_175 rfl (Or.inl (by decide)) (by omega) (by omega) (⟨by rw [show fitF q ar = false by (rw [fitF, if_neg (fun z => z.elim (fun y => y (by omega)) (fun y => y h18)), if_neg (by omega), if_neg (by omega), if_neg (by omega), if_neg (by omega), if_neg (by omega), if_neg (by omega), if_pos (by omega)]; rw [decide_eq_false (by omega)]; rfl)]; rfl, rfl⟩)
        · have k158 := j_ne_f (a := ar.length) (b := 5) (by omega) (by omega) c158
          refine e_aload_n 162 dX15_doesFit_161 rfl rfl ?_
          refine e_aload_n 163 dX15_doesFit_162 rfl rfl ?_
          refine e_iconst 164 (v := (nI 5)) dX15_doesFit_163 rfl (by decide) ?_
          refine u_callS 167 dX15_doesFit_164 rfl cs_X15_330 (u_X15_isBegun hR hqn hq hA han ha (by omega) (by omega)) rfl rfl (Nat.le_of_ble_eq_true rfl) (by decide) ⟨by omega, by omega⟩ ?_
          refine e_if_eq 174 170 dX15_doesFit_167 rfl rfl (fun c167 => ?_) (fun c167 => ?_)
          · have k167 := jb_eq_t c167
            refine e_iconst 175 (v := (nI 0)) dX15_doesFit_174 rfl (by decide) ?_
            exact e_zret dX15_doesFit_175 rfl (Or.inl (by decide)) (by omega) (by omega) (⟨by rw [show fitF q ar = false by (rw [fitF, if_neg (fun z => z.elim (fun y => y (by omega)) (fun y => y h18)), if_neg (by omega), if_neg (by omega), if_neg (by omega), if_neg (by omega), if_neg (by omega), if_neg (by omega), if_pos (by omega)]; rw [k167, decide_eq_true k158]; rfl)]; rfl, rfl⟩)
          · have k167 := jb_eq_f c167
            refine e_iconst 171 (v := (nI 1)) dX15_doesFit_170 rfl (by decide) ?_
            refine e_goto 175 dX15_doesFit_171 rfl ?_
            exact e_zret dX15_doesFit_175 rfl (Or.inr (by decide)) (by omega) (by omega) (⟨by rw [show fitF q ar = true by (rw [fitF, if_neg (fun z => z.elim (fun y => y (by omega)) (fun y => y h18)), if_neg (by omega), if_neg (by omega), if_neg (by omega), if_neg (by omega), if_neg (by omega), if_neg (by omega), if_pos (by omega)]; rw [k167, decide_eq_true k158]; rfl)]; rfl, rfl⟩)
      · refine e_tableIn 379 (off := 354) dX15_doesFit_25 (by rw [nI_toInt (by omega)]; omega) (by rw [nI_toInt (by omega)]; omega) (by rw [s25]; decide) rfl ?_
        refine e_iload_n 380 dX15_doesFit_379 rfl rfl ?_
        refine e_iconst 381 (v := (nI 2)) dX15_doesFit_380 rfl (by decide) ?_
        refine e_icmp_lt 404 384 dX15_doesFit_381 rfl rfl (fun c381 => ?_) (fun c381 => ?_)
        · have k381 := j_lt_t (a := ar.length) (b := 2) (by omega) (by omega) c381
          refine e_iconst 405 (v := (nI 0)) dX15_doesFit_404 rfl (by decide) ?_
          exact e_zret dX15_doesFit_405 rfl (Or.inl (by decide)) (by omega) (by omega) (⟨by rw [show fitF q ar = false by (rw [fitF, if_neg (fun z => z.elim (fun y => y (by omega)) (fun y => y h18)), if_neg (by omega), if_neg (by omega), if_neg (by omega), if_neg (by omega), if_neg (by omega), if_neg (by omega), if_neg (by omega), if_pos (by omega)]; exact decide_eq_false (by omega))]; rfl, rfl⟩)
        · have k381 := j_lt_f (a := ar.length) (b := 2) (by omega) (by omega) c381
          refine e_aload_n 385 dX15_doesFit_384 rfl rfl ?_
          refine e_iconst 386 (v := (nI 1)) dX15_doesFit_385 rfl (by decide) ?_
          have b386 := gd_lt (i := 1) ha (by decide)
          refine v_iald 387 hA (k := 1) (x := (ar.getD 1 0)) dX15_doesFit_386 rfl (by omega) (by omega) rfl ?_
          refine e_iconst 388 (v := (nI 1)) dX15_doesFit_387 rfl (by decide) ?_
          refine e_icmp_lt 404 391 dX15_doesFit_388 rfl rfl (fun c388 => ?_) (fun c388 => ?_)
          · have k388 := j_lt_t (a := (ar.getD 1 0)) (b := 1) (by omega) (by omega) c388
            refine e_iconst 405 (v := (nI 0)) dX15_doesFit_404 rfl (by decide) ?_
            exact e_zret dX15_doesFit_405 rfl (Or.inl (by decide)) (by omega) (by omega) (⟨by rw [show fitF q ar = false by (rw [fitF, if_neg (fun z => z.elim (fun y => y (by omega)) (fun y => y h18)), if_neg (by omega), if_neg (by omega), if_neg (by omega), if_neg (by omega), if_neg (by omega), if_neg (by omega), if_neg (by omega), if_pos (by omega)]; exact decide_eq_false (by omega))]; rfl, rfl⟩)
          · have k388 := j_lt_f (a := (ar.getD 1 0)) (b := 1) (by omega) (by omega) c388
            refine e_iload_n 392 dX15_doesFit_391 rfl rfl ?_
            refine e_iconst 393 (v := (nI 2)) dX15_doesFit_392 rfl (by decide) ?_
            refine e_aload_n 394 dX15_doesFit_393 rfl rfl ?_
            refine e_iconst 395 (v := (nI 1)) dX15_doesFit_394 rfl (by decide) ?_
            have b395 := gd_lt (i := 1) ha (by decide)
            refine v_iald 396 hA (k := 1) (x := (ar.getD 1 0)) dX15_doesFit_395 rfl (by omega) (by omega) rfl ?_
            refine e_iadd 397 (v := (nI (2 + (ar.getD 1 0)))) dX15_doesFit_396 rfl (nI_add 2 (ar.getD 1 0)) ?_
            refine e_icmp_ne 404 400 dX15_doesFit_397 rfl rfl (fun c397 => ?_) (fun c397 => ?_)
            · have k397 := j_ne_t (a := ar.length) (b := (2 + (ar.getD 1 0))) (by omega) (by omega) c397
              refine e_iconst 405 (v := (nI 0)) dX15_doesFit_404 rfl (by decide) ?_
              exact e_zret dX15_doesFit_405 rfl (Or.inl (by decide)) (by omega) (by omega) (⟨by rw [show fitF q ar = false by (rw [fitF, if_neg (fun z => z.elim (fun y => y (by omega)) (fun y => y h18)), if_neg (by omega), if_neg (by omega), if_neg (by omega), if_neg (by omega), if_neg (by omega), if_neg (by omega), if_neg (by omega), if_pos (by omega)]; exact decide_eq_false (by omega))]; rfl, rfl⟩)
            · have k397 := j_ne_f (a := ar.length) (b := (2 + (ar.getD 1 0))) (by omega) (by omega) c397
              refine e_iconst 401 (v := (nI 1)) dX15_doesFit_400 rfl (by decide) ?_
              refine e_goto 405 dX15_doesFit_401 rfl ?_
              exact e_zret dX15_doesFit_405 rfl (Or.inr (by decide)) (by omega) (by omega) (⟨by rw [show fitF q ar = true by (rw [fitF, if_neg (fun z => z.elim (fun y => y (by omega)) (fun y => y h18)), if_neg (by omega), if_neg (by omega), if_neg (by omega), if_neg (by omega), if_neg (by omega), if_neg (by omega), if_neg (by omega), if_pos (by omega)]; exact decide_eq_true (by omega))]; rfl, rfl⟩)
      · refine e_tableIn 406 (off := 381) dX15_doesFit_25 (by rw [nI_toInt (by omega)]; omega) (by rw [nI_toInt (by omega)]; omega) (by rw [s25]; decide) rfl ?_
        obtain ⟨T9, h7⟩ : ∃ T9, q.length = 2 + 7 * T9 := ⟨_, sh20 (by omega) h18⟩
        refine e_iload_n 407 dX15_doesFit_406 rfl rfl ?_
        refine e_iconst 408 (v := (nI 2)) dX15_doesFit_407 rfl (by decide) ?_
        refine e_icmp_lt 434 411 dX15_doesFit_408 rfl rfl (fun c408 => ?_) (fun c408 => ?_)
        · have k408 := j_lt_t (a := ar.length) (b := 2) (by omega) (by omega) c408
          refine e_iconst 435 (v := (nI 0)) dX15_doesFit_434 rfl (by decide) ?_
          exact e_zret dX15_doesFit_435 rfl (Or.inl (by decide)) (by omega) (by omega) (⟨by rw [show fitF q ar = false by (rw [fitF, if_neg (fun z => z.elim (fun y => y (by omega)) (fun y => y h18)), if_neg (by omega), if_neg (by omega), if_neg (by omega), if_neg (by omega), if_neg (by omega), if_neg (by omega), if_neg (by omega), if_neg (by omega), if_pos (by omega)]; rw [decide_eq_false (by omega)]; rfl)]; rfl, rfl⟩)
        · have k408 := j_lt_f (a := ar.length) (b := 2) (by omega) (by omega) c408
          refine e_iload_n 412 dX15_doesFit_411 rfl rfl ?_
          refine e_iconst 413 (v := (nI 2)) dX15_doesFit_412 rfl (by decide) ?_
          refine e_aload_n 414 dX15_doesFit_413 rfl rfl ?_
          refine e_iconst 415 (v := (nI 1)) dX15_doesFit_414 rfl (by decide) ?_
          have b415 := gd_lt (i := 1) ha (by decide)
          refine v_iald 416 hA (k := 1) (x := (ar.getD 1 0)) dX15_doesFit_415 rfl (by omega) (by omega) rfl ?_
          refine e_iadd 417 (v := (nI (2 + (ar.getD 1 0)))) dX15_doesFit_416 rfl (nI_add 2 (ar.getD 1 0)) ?_
          refine e_icmp_ne 434 420 dX15_doesFit_417 rfl rfl (fun c417 => ?_) (fun c417 => ?_)
          · have k417 := j_ne_t (a := ar.length) (b := (2 + (ar.getD 1 0))) (by omega) (by omega) c417
            refine e_iconst 435 (v := (nI 0)) dX15_doesFit_434 rfl (by decide) ?_
            exact e_zret dX15_doesFit_435 rfl (Or.inl (by decide)) (by omega) (by omega) (⟨by rw [show fitF q ar = false by (rw [fitF, if_neg (fun z => z.elim (fun y => y (by omega)) (fun y => y h18)), if_neg (by omega), if_neg (by omega), if_neg (by omega), if_neg (by omega), if_neg (by omega), if_neg (by omega), if_neg (by omega), if_neg (by omega), if_pos (by omega)]; rw [decide_eq_false (by omega)]; rfl)]; rfl, rfl⟩)
          · have k417 := j_ne_f (a := ar.length) (b := (2 + (ar.getD 1 0))) (by omega) (by omega) c417
            refine e_aload_n 421 dX15_doesFit_420 rfl rfl ?_
            refine e_iload_n 422 dX15_doesFit_421 rfl rfl ?_
            refine e_aload_n 423 dX15_doesFit_422 rfl rfl ?_
            refine e_iload_n 424 dX15_doesFit_423 rfl rfl ?_
            refine u_callS 427 dX15_doesFit_424 rfl cs_X15_334 (u_X15_doPartsFit hR hqn hq hA han ha h7 (by omega)) rfl rfl (Nat.le_of_ble_eq_true rfl) (by decide) ⟨by omega, by omega⟩ ?_
            refine e_if_eq 434 430 dX15_doesFit_427 rfl rfl (fun c427 => ?_) (fun c427 => ?_)
            · have k427 := jb_eq_t c427
              refine e_iconst 435 (v := (nI 0)) dX15_doesFit_434 rfl (by decide) ?_
              exact e_zret dX15_doesFit_435 rfl (Or.inl (by decide)) (by omega) (by omega) (⟨by rw [show fitF q ar = false by (rw [fitF, if_neg (fun z => z.elim (fun y => y (by omega)) (fun y => y h18)), if_neg (by omega), if_neg (by omega), if_neg (by omega), if_neg (by omega), if_neg (by omega), if_neg (by omega), if_neg (by omega), if_neg (by omega), if_pos (by omega)]; rw [show (q.length - 2) / 7 = T9 by omega, k427, decide_eq_true (by omega)]; rfl)]; rfl, rfl⟩)
            · have k427 := jb_eq_f c427
              refine e_iconst 431 (v := (nI 1)) dX15_doesFit_430 rfl (by decide) ?_
              refine e_goto 435 dX15_doesFit_431 rfl ?_
              exact e_zret dX15_doesFit_435 rfl (Or.inr (by decide)) (by omega) (by omega) (⟨by rw [show fitF q ar = true by (rw [fitF, if_neg (fun z => z.elim (fun y => y (by omega)) (fun y => y h18)), if_neg (by omega), if_neg (by omega), if_neg (by omega), if_neg (by omega), if_neg (by omega), if_neg (by omega), if_neg (by omega), if_neg (by omega), if_pos (by omega)]; rw [show (q.length - 2) / 7 = T9 by omega, k427, decide_eq_true (by omega)]; rfl)]; rfl, rfl⟩)
      · refine e_tableIn 436 (off := 411) dX15_doesFit_25 (by rw [nI_toInt (by omega)]; omega) (by rw [nI_toInt (by omega)]; omega) (by rw [s25]; decide) rfl ?_
        refine e_iload_n 437 dX15_doesFit_436 rfl rfl ?_
        refine e_iconst 438 (v := (nI 5)) dX15_doesFit_437 rfl (by decide) ?_
        refine e_icmp_lt 483 441 dX15_doesFit_438 rfl rfl (fun c438 => ?_) (fun c438 => ?_)
        · have k438 := j_lt_t (a := ar.length) (b := 5) (by omega) (by omega) c438
          refine e_iconst 484 (v := (nI 0)) dX15_doesFit_483 rfl (by decide) ?_
          exact e_zret dX15_doesFit_484 rfl (Or.inl (by decide)) (by omega) (by omega) (⟨by rw [show fitF q ar = false by (rw [fitF, if_neg (fun z => z.elim (fun y => y (by omega)) (fun y => y h18)), if_neg (by omega), if_neg (by omega), if_neg (by omega), if_neg (by omega), if_neg (by omega), if_neg (by omega), if_neg (by omega), if_neg (by omega), if_neg (by omega), if_pos (by omega)]; exact decide_eq_false (by omega))]; rfl, rfl⟩)
        · have k438 := j_lt_f (a := ar.length) (b := 5) (by omega) (by omega) c438
          refine e_aload_n 442 dX15_doesFit_441 rfl rfl ?_
          refine e_iconst 443 (v := (nI 1)) dX15_doesFit_442 rfl (by decide) ?_
          refine u_callS 446 dX15_doesFit_443 rfl cs_X15_85 (u_X15_two hA (k := 1) (by omega) (by omega)) rfl rfl (Nat.le_of_ble_eq_true rfl) (by decide) ⟨by omega, by omega⟩ ?_
          have w443 := wd_lt (k := 1) ha
          refine e_iload_n 447 dX15_doesFit_446 rfl rfl ?_
          refine e_iconst 448 (v := (nI 3)) dX15_doesFit_447 rfl (by decide) ?_
          refine e_isub 449 (v := (nI (ar.length - 3))) dX15_doesFit_448 rfl (pk_sub (by omega)) ?_
          refine e_icmp_ne 483 452 dX15_doesFit_449 rfl rfl (fun c449 => ?_) (fun c449 => ?_)
          · have k449 := j_ne_t (a := (wd ar 1)) (b := (ar.length - 3)) (by omega) (by omega) c449
            refine e_iconst 484 (v := (nI 0)) dX15_doesFit_483 rfl (by decide) ?_
            exact e_zret dX15_doesFit_484 rfl (Or.inl (by decide)) (by omega) (by omega) (⟨by rw [show fitF q ar = false by (rw [fitF, if_neg (fun z => z.elim (fun y => y (by omega)) (fun y => y h18)), if_neg (by omega), if_neg (by omega), if_neg (by omega), if_neg (by omega), if_neg (by omega), if_neg (by omega), if_neg (by omega), if_neg (by omega), if_neg (by omega), if_pos (by omega)]; exact decide_eq_false (by omega))]; rfl, rfl⟩)
          · have k449 := j_ne_f (a := (wd ar 1)) (b := (ar.length - 3)) (by omega) (by omega) c449
            refine e_aload_n 453 dX15_doesFit_452 rfl rfl ?_
            refine e_iconst 454 (v := (nI 3)) dX15_doesFit_453 rfl (by decide) ?_
            refine u_callS 457 dX15_doesFit_454 rfl cs_X15_85 (u_X15_two hA (k := 3) (by omega) (by omega)) rfl rfl (Nat.le_of_ble_eq_true rfl) (by decide) ⟨by omega, by omega⟩ ?_
            have w454 := wd_lt (k := 3) ha
            refine e_bipush 459 (v := (nI 31)) dX15_doesFit_457 rfl (by decide) ?_
            refine e_icmp_gt 483 462 dX15_doesFit_459 rfl rfl (fun c459 => ?_) (fun c459 => ?_)
            · have k459 := j_gt_t (a := (wd ar 3)) (b := 31) (by omega) (by omega) c459
              refine e_iconst 484 (v := (nI 0)) dX15_doesFit_483 rfl (by decide) ?_
              exact e_zret dX15_doesFit_484 rfl (Or.inl (by decide)) (by omega) (by omega) (⟨by rw [show fitF q ar = false by (rw [fitF, if_neg (fun z => z.elim (fun y => y (by omega)) (fun y => y h18)), if_neg (by omega), if_neg (by omega), if_neg (by omega), if_neg (by omega), if_neg (by omega), if_neg (by omega), if_neg (by omega), if_neg (by omega), if_neg (by omega), if_pos (by omega)]; exact decide_eq_false (by omega))]; rfl, rfl⟩)
            · have k459 := j_gt_f (a := (wd ar 3)) (b := 31) (by omega) (by omega) c459
              refine e_aload_n 463 dX15_doesFit_462 rfl rfl ?_
              refine e_iconst 464 (v := (nI 1)) dX15_doesFit_463 rfl (by decide) ?_
              refine u_callS 467 dX15_doesFit_464 rfl cs_X15_85 (u_X15_two hA (k := 1) (by omega) (by omega)) rfl rfl (Nat.le_of_ble_eq_true rfl) (by decide) ⟨by omega, by omega⟩ ?_
              have w464 := wd_lt (k := 1) ha
              refine e_iconst 468 (v := (nI 2)) dX15_doesFit_467 rfl (by decide) ?_
              refine e_iconst 469 (v := (nI 2)) dX15_doesFit_468 rfl (by decide) ?_
              refine e_aload_n 470 dX15_doesFit_469 rfl rfl ?_
              refine e_iconst 471 (v := (nI 3)) dX15_doesFit_470 rfl (by decide) ?_
              refine u_callS 474 dX15_doesFit_471 rfl cs_X15_85 (u_X15_two hA (k := 3) (by omega) (by omega)) rfl rfl (Nat.le_of_ble_eq_true rfl) (by decide) ⟨by omega, by omega⟩ ?_
              have w471 := wd_lt (k := 3) ha
              refine e_imul 475 (v := (nI (2 * (wd ar 3)))) dX15_doesFit_474 rfl (pk_mul 2 (wd ar 3)) ?_
              refine e_iadd 476 (v := (nI (2 + (2 * (wd ar 3))))) dX15_doesFit_475 rfl (nI_add 2 (2 * (wd ar 3))) ?_
              refine e_icmp_ne 483 479 dX15_doesFit_476 rfl rfl (fun c476 => ?_) (fun c476 => ?_)
              · have k476 := j_ne_t (a := (wd ar 1)) (b := (2 + (2 * (wd ar 3)))) (by omega) (by omega) c476
                refine e_iconst 484 (v := (nI 0)) dX15_doesFit_483 rfl (by decide) ?_
                exact e_zret dX15_doesFit_484 rfl (Or.inl (by decide)) (by omega) (by omega) (⟨by rw [show fitF q ar = false by (rw [fitF, if_neg (fun z => z.elim (fun y => y (by omega)) (fun y => y h18)), if_neg (by omega), if_neg (by omega), if_neg (by omega), if_neg (by omega), if_neg (by omega), if_neg (by omega), if_neg (by omega), if_neg (by omega), if_neg (by omega), if_pos (by omega)]; exact decide_eq_false (by omega))]; rfl, rfl⟩)
              · have k476 := j_ne_f (a := (wd ar 1)) (b := (2 + (2 * (wd ar 3)))) (by omega) (by omega) c476
                refine e_iconst 480 (v := (nI 1)) dX15_doesFit_479 rfl (by decide) ?_
                refine e_goto 484 dX15_doesFit_480 rfl ?_
                exact e_zret dX15_doesFit_484 rfl (Or.inr (by decide)) (by omega) (by omega) (⟨by rw [show fitF q ar = true by (rw [fitF, if_neg (fun z => z.elim (fun y => y (by omega)) (fun y => y h18)), if_neg (by omega), if_neg (by omega), if_neg (by omega), if_neg (by omega), if_neg (by omega), if_neg (by omega), if_neg (by omega), if_neg (by omega), if_neg (by omega), if_pos (by omega)]; exact decide_eq_true (by omega))]; rfl, rfl⟩)
    · have k18 := jb_ne_f c18
      have h18 : shF q ≠ 0 := of_decide_eq_false k18
      refine e_iconst 22 (v := (nI 0)) dX15_doesFit_21 rfl (by decide) ?_
      exact e_zret dX15_doesFit_22 rfl (Or.inl (by decide)) (by omega) (by omega) (⟨by rw [fitF, if_pos (Or.inr h18)]; rfl, rfl⟩)
set_option maxRecDepth 20000 in
set_option maxHeartbeats 2000000 in
theorem u_X14_isGood {s a q : Nat} {r : List Nat} {sp ov : Bool} {h : eH} (hs : h s = some (.inr (12, [.ref a, .int (nI r.length), .int (nI q), .int (bI sp), .int (bI ov)]))) (hR : iaR a 256 r h) (hb : ∀ x ∈ r, x < 65536) : PC mX14_isGood [.ref s] h (some (.int (bI (goodF r sp)))) 1 26 := by
  have hle := hR.le
  refine PC.mk 0 (ls := [some (.ref s)]) rfl rfl (Nat.le_of_ble_eq_true rfl) rfl ?_
  refine e_aload_n 1 dX14_isGood_0 rfl rfl ?_
  refine e_get 4 dX14_isGood_1 rfl fl_X14_20_12 hs rfl ?_
  refine e_if_ne 62 7 dX14_isGood_4 rfl rfl (fun c4 => ?_) (fun c4 => ?_)
  · have k4 := jb_ne_t c4
    refine e_iconst 63 (v := (nI 0)) dX14_isGood_62 rfl (by decide) ?_
    exact e_zret dX14_isGood_63 rfl (Or.inl (by decide)) (by omega) (by omega) (⟨by rw [show goodF r sp = false by unfold goodF; rw [k4]; rfl]; rfl, rfl⟩)
  · have k4 := jb_ne_f c4
    refine e_aload_n 8 dX14_isGood_7 rfl rfl ?_
    refine e_get 11 dX14_isGood_8 rfl fl_X14_17_12 hs rfl ?_
    refine e_iconst 12 (v := (nI 4)) dX14_isGood_11 rfl (by decide) ?_
    refine e_icmp_lt 62 15 dX14_isGood_12 rfl rfl (fun c12 => ?_) (fun c12 => ?_)
    · have k12 := j_lt_t (a := r.length) (b := 4) (by omega) (by omega) c12
      refine e_iconst 63 (v := (nI 0)) dX14_isGood_62 rfl (by decide) ?_
      exact e_zret dX14_isGood_63 rfl (Or.inl (by decide)) (by omega) (by omega) (⟨by rw [show goodF r sp = false by unfold goodF; rw [k4]; (try simp only [Bool.and_eq_true, Bool.or_eq_true, Bool.not_eq_true', Bool.and_eq_false_iff, Bool.or_eq_false_iff, Bool.not_eq_false', decide_eq_true_eq, decide_eq_false_iff_not, Bool.false_or, Bool.true_or, Bool.or_false, Bool.or_true, Bool.not_false, Bool.not_true, Bool.true_and, Bool.false_and, Bool.and_true, Bool.and_false, reduceCtorEq]) <;> (try omega)]; rfl, rfl⟩)
    · have k12 := j_lt_f (a := r.length) (b := 4) (by omega) (by omega) c12
      refine e_aload_n 16 dX14_isGood_15 rfl rfl ?_
      refine e_get 19 dX14_isGood_16 rfl fl_X14_7_12 hs rfl ?_
      refine e_aload_n 20 dX14_isGood_19 rfl rfl ?_
      refine e_get 23 dX14_isGood_20 rfl fl_X14_17_12 hs rfl ?_
      refine e_iconst 24 (v := (nI 2)) dX14_isGood_23 rfl (by decide) ?_
      refine e_isub 25 (v := (nI (r.length - 2))) dX14_isGood_24 rfl (pk_sub (by omega)) ?_
      refine u_callS 28 dX14_isGood_25 rfl cs_X14_27 (u_X15_sumOf hR (by omega) hb (by decide)) rfl rfl (Nat.le_of_ble_eq_true rfl) (by decide) ⟨by omega, by omega⟩ ?_
      have b9 : crs (r.take (r.length - 2)) < 65536 := crs_lt (fun x hx => hb x (List.mem_of_mem_take hx))
      refine e_aload_n 29 dX14_isGood_28 rfl rfl ?_
      refine e_get 32 dX14_isGood_29 rfl fl_X14_7_12 hs rfl ?_
      refine e_aload_n 33 dX14_isGood_32 rfl rfl ?_
      refine e_get 36 dX14_isGood_33 rfl fl_X14_17_12 hs rfl ?_
      refine e_iconst 37 (v := (nI 2)) dX14_isGood_36 rfl (by decide) ?_
      refine e_isub 38 (v := (nI (r.length - 2))) dX14_isGood_37 rfl (pk_sub (by omega)) ?_
      have b38 := gd_lt (i := (r.length - 2)) hb (by decide)
      refine v_iald 39 hR (k := (r.length - 2)) (x := (r.getD (r.length - 2) 0)) dX14_isGood_38 rfl (by omega) (by omega) rfl ?_
      refine e_sipush 42 (v := (nI 256)) dX14_isGood_39 rfl (by decide) ?_
      refine e_aload_n 43 dX14_isGood_42 rfl rfl ?_
      refine e_get 46 dX14_isGood_43 rfl fl_X14_7_12 hs rfl ?_
      refine e_aload_n 47 dX14_isGood_46 rfl rfl ?_
      refine e_get 50 dX14_isGood_47 rfl fl_X14_17_12 hs rfl ?_
      refine e_iconst 51 (v := (nI 1)) dX14_isGood_50 rfl (by decide) ?_
      refine e_isub 52 (v := (nI (r.length - 1))) dX14_isGood_51 rfl (pk_sub (by omega)) ?_
      have b52 := gd_lt (i := (r.length - 1)) hb (by decide)
      refine v_iald 53 hR (k := (r.length - 1)) (x := (r.getD (r.length - 1) 0)) dX14_isGood_52 rfl (by omega) (by omega) rfl ?_
      refine e_imul 54 (v := (nI (256 * (r.getD (r.length - 1) 0)))) dX14_isGood_53 rfl (pk_mul 256 (r.getD (r.length - 1) 0)) ?_
      refine e_iadd 55 (v := (nI ((r.getD (r.length - 2) 0) + (256 * (r.getD (r.length - 1) 0))))) dX14_isGood_54 rfl (nI_add (r.getD (r.length - 2) 0) (256 * (r.getD (r.length - 1) 0))) ?_
      refine e_icmp_ne 62 58 dX14_isGood_55 rfl rfl (fun c55 => ?_) (fun c55 => ?_)
      · have k55 := j_ne_t (a := (crs (r.take (r.length - 2)))) (b := ((r.getD (r.length - 2) 0) + (256 * (r.getD (r.length - 1) 0)))) (by omega) (by omega) c55
        refine e_iconst 63 (v := (nI 0)) dX14_isGood_62 rfl (by decide) ?_
        exact e_zret dX14_isGood_63 rfl (Or.inl (by decide)) (by omega) (by omega) (⟨by rw [show goodF r sp = false by unfold goodF; rw [k4]; (try simp only [Bool.and_eq_true, Bool.or_eq_true, Bool.not_eq_true', Bool.and_eq_false_iff, Bool.or_eq_false_iff, Bool.not_eq_false', decide_eq_true_eq, decide_eq_false_iff_not, Bool.false_or, Bool.true_or, Bool.or_false, Bool.or_true, Bool.not_false, Bool.not_true, Bool.true_and, Bool.false_and, Bool.and_true, Bool.and_false, reduceCtorEq]) <;> (try omega)]; rfl, rfl⟩)
      · have k55 := j_ne_f (a := (crs (r.take (r.length - 2)))) (b := ((r.getD (r.length - 2) 0) + (256 * (r.getD (r.length - 1) 0)))) (by omega) (by omega) c55
        refine e_iconst 59 (v := (nI 1)) dX14_isGood_58 rfl (by decide) ?_
        refine e_goto 63 dX14_isGood_59 rfl ?_
        exact e_zret dX14_isGood_63 rfl (Or.inr (by decide)) (by omega) (by omega) (⟨by rw [show goodF r sp = true by unfold goodF; rw [k4]; (try simp only [Bool.and_eq_true, Bool.or_eq_true, Bool.not_eq_true', Bool.and_eq_false_iff, Bool.or_eq_false_iff, Bool.not_eq_false', decide_eq_true_eq, decide_eq_false_iff_not, Bool.false_or, Bool.true_or, Bool.or_false, Bool.or_true, Bool.not_false, Bool.not_true, Bool.true_and, Bool.false_and, Bool.and_true, Bool.and_false, reduceCtorEq]) <;> (try omega)]; rfl, rfl⟩)
set_option maxRecDepth 20000 in
set_option maxHeartbeats 2000000 in
theorem u_X14_isGoodD {s a q : Nat} {r : List Nat} {sp ov : Bool} {h : eH} {xs : List Value} (hs : h s = some (.inr (10, .ref a :: .int (nI r.length) :: .int (nI q) :: .int (bI sp) :: .int (bI ov) :: xs))) (hR : iaR a 256 r h) (hb : ∀ x ∈ r, x < 65536) : PC mX14_isGood [.ref s] h (some (.int (bI (goodF r sp)))) 1 26 := by
  have hle := hR.le
  refine PC.mk 0 (ls := [some (.ref s)]) rfl rfl (Nat.le_of_ble_eq_true rfl) rfl ?_
  refine e_aload_n 1 dX14_isGood_0 rfl rfl ?_
  refine e_get 4 dX14_isGood_1 rfl fl_X14_20_10 hs rfl ?_
  refine e_if_ne 62 7 dX14_isGood_4 rfl rfl (fun c4 => ?_) (fun c4 => ?_)
  · have k4 := jb_ne_t c4
    refine e_iconst 63 (v := (nI 0)) dX14_isGood_62 rfl (by decide) ?_
    exact e_zret dX14_isGood_63 rfl (Or.inl (by decide)) (by omega) (by omega) (⟨by rw [show goodF r sp = false by unfold goodF; rw [k4]; rfl]; rfl, rfl⟩)
  · have k4 := jb_ne_f c4
    refine e_aload_n 8 dX14_isGood_7 rfl rfl ?_
    refine e_get 11 dX14_isGood_8 rfl fl_X14_17_10 hs rfl ?_
    refine e_iconst 12 (v := (nI 4)) dX14_isGood_11 rfl (by decide) ?_
    refine e_icmp_lt 62 15 dX14_isGood_12 rfl rfl (fun c12 => ?_) (fun c12 => ?_)
    · have k12 := j_lt_t (a := r.length) (b := 4) (by omega) (by omega) c12
      refine e_iconst 63 (v := (nI 0)) dX14_isGood_62 rfl (by decide) ?_
      exact e_zret dX14_isGood_63 rfl (Or.inl (by decide)) (by omega) (by omega) (⟨by rw [show goodF r sp = false by unfold goodF; rw [k4]; (try simp only [Bool.and_eq_true, Bool.or_eq_true, Bool.not_eq_true', Bool.and_eq_false_iff, Bool.or_eq_false_iff, Bool.not_eq_false', decide_eq_true_eq, decide_eq_false_iff_not, Bool.false_or, Bool.true_or, Bool.or_false, Bool.or_true, Bool.not_false, Bool.not_true, Bool.true_and, Bool.false_and, Bool.and_true, Bool.and_false, reduceCtorEq]) <;> (try omega)]; rfl, rfl⟩)
    · have k12 := j_lt_f (a := r.length) (b := 4) (by omega) (by omega) c12
      refine e_aload_n 16 dX14_isGood_15 rfl rfl ?_
      refine e_get 19 dX14_isGood_16 rfl fl_X14_7_10 hs rfl ?_
      refine e_aload_n 20 dX14_isGood_19 rfl rfl ?_
      refine e_get 23 dX14_isGood_20 rfl fl_X14_17_10 hs rfl ?_
      refine e_iconst 24 (v := (nI 2)) dX14_isGood_23 rfl (by decide) ?_
      refine e_isub 25 (v := (nI (r.length - 2))) dX14_isGood_24 rfl (pk_sub (by omega)) ?_
      refine u_callS 28 dX14_isGood_25 rfl cs_X14_27 (u_X15_sumOf hR (by omega) hb (by decide)) rfl rfl (Nat.le_of_ble_eq_true rfl) (by decide) ⟨by omega, by omega⟩ ?_
      have b9 : crs (r.take (r.length - 2)) < 65536 := crs_lt (fun x hx => hb x (List.mem_of_mem_take hx))
      refine e_aload_n 29 dX14_isGood_28 rfl rfl ?_
      refine e_get 32 dX14_isGood_29 rfl fl_X14_7_10 hs rfl ?_
      refine e_aload_n 33 dX14_isGood_32 rfl rfl ?_
      refine e_get 36 dX14_isGood_33 rfl fl_X14_17_10 hs rfl ?_
      refine e_iconst 37 (v := (nI 2)) dX14_isGood_36 rfl (by decide) ?_
      refine e_isub 38 (v := (nI (r.length - 2))) dX14_isGood_37 rfl (pk_sub (by omega)) ?_
      have b38 := gd_lt (i := (r.length - 2)) hb (by decide)
      refine v_iald 39 hR (k := (r.length - 2)) (x := (r.getD (r.length - 2) 0)) dX14_isGood_38 rfl (by omega) (by omega) rfl ?_
      refine e_sipush 42 (v := (nI 256)) dX14_isGood_39 rfl (by decide) ?_
      refine e_aload_n 43 dX14_isGood_42 rfl rfl ?_
      refine e_get 46 dX14_isGood_43 rfl fl_X14_7_10 hs rfl ?_
      refine e_aload_n 47 dX14_isGood_46 rfl rfl ?_
      refine e_get 50 dX14_isGood_47 rfl fl_X14_17_10 hs rfl ?_
      refine e_iconst 51 (v := (nI 1)) dX14_isGood_50 rfl (by decide) ?_
      refine e_isub 52 (v := (nI (r.length - 1))) dX14_isGood_51 rfl (pk_sub (by omega)) ?_
      have b52 := gd_lt (i := (r.length - 1)) hb (by decide)
      refine v_iald 53 hR (k := (r.length - 1)) (x := (r.getD (r.length - 1) 0)) dX14_isGood_52 rfl (by omega) (by omega) rfl ?_
      refine e_imul 54 (v := (nI (256 * (r.getD (r.length - 1) 0)))) dX14_isGood_53 rfl (pk_mul 256 (r.getD (r.length - 1) 0)) ?_
      refine e_iadd 55 (v := (nI ((r.getD (r.length - 2) 0) + (256 * (r.getD (r.length - 1) 0))))) dX14_isGood_54 rfl (nI_add (r.getD (r.length - 2) 0) (256 * (r.getD (r.length - 1) 0))) ?_
      refine e_icmp_ne 62 58 dX14_isGood_55 rfl rfl (fun c55 => ?_) (fun c55 => ?_)
      · have k55 := j_ne_t (a := (crs (r.take (r.length - 2)))) (b := ((r.getD (r.length - 2) 0) + (256 * (r.getD (r.length - 1) 0)))) (by omega) (by omega) c55
        refine e_iconst 63 (v := (nI 0)) dX14_isGood_62 rfl (by decide) ?_
        exact e_zret dX14_isGood_63 rfl (Or.inl (by decide)) (by omega) (by omega) (⟨by rw [show goodF r sp = false by unfold goodF; rw [k4]; (try simp only [Bool.and_eq_true, Bool.or_eq_true, Bool.not_eq_true', Bool.and_eq_false_iff, Bool.or_eq_false_iff, Bool.not_eq_false', decide_eq_true_eq, decide_eq_false_iff_not, Bool.false_or, Bool.true_or, Bool.or_false, Bool.or_true, Bool.not_false, Bool.not_true, Bool.true_and, Bool.false_and, Bool.and_true, Bool.and_false, reduceCtorEq]) <;> (try omega)]; rfl, rfl⟩)
      · have k55 := j_ne_f (a := (crs (r.take (r.length - 2)))) (b := ((r.getD (r.length - 2) 0) + (256 * (r.getD (r.length - 1) 0)))) (by omega) (by omega) c55
        refine e_iconst 59 (v := (nI 1)) dX14_isGood_58 rfl (by decide) ?_
        refine e_goto 63 dX14_isGood_59 rfl ?_
        exact e_zret dX14_isGood_63 rfl (Or.inr (by decide)) (by omega) (by omega) (⟨by rw [show goodF r sp = true by unfold goodF; rw [k4]; (try simp only [Bool.and_eq_true, Bool.or_eq_true, Bool.not_eq_true', Bool.and_eq_false_iff, Bool.or_eq_false_iff, Bool.not_eq_false', decide_eq_true_eq, decide_eq_false_iff_not, Bool.false_or, Bool.true_or, Bool.or_false, Bool.or_true, Bool.not_false, Bool.not_true, Bool.true_and, Bool.false_and, Bool.and_true, Bool.and_false, reduceCtorEq]) <;> (try omega)]; rfl, rfl⟩)
