/-! the reference: serve: its loops -/
def blD (s : DS) (k : Nat) (r : List Nat) : DS := (s.1, s.2.1, s.2.2.1, s.2.2.2.1, upL s.2.2.2.2.1 k r, s.2.2.2.2.2)
theorem pu_bl {s : DS} {k j x : Nat} {r : List Nat} : puD (blD s k r) k j x = blD s k (r.set j x) := by
  unfold puD blD
  simp only [upL_up, upL_s]
theorem bl_0 {s : DS} {k : Nat} : blD s k (dL s k) = s := by
  unfold blD
  rw [upL_self]
theorem bts_pad {vs : List Nat} {i : Nat} (h : vs.length ≤ i) : ∀ j, bts vs 0 (i + j) = bts vs 0 i
  | 0 => rfl
  | j + 1 => by
    rw [← Nat.add_assoc, bts, bts_pad h j, gd_out (by omega)]
    rfl
set_option maxRecDepth 20000 in
set_option maxHeartbeats 2000000 in
theorem ul_serve7 {m d a : Nat} {s : DS} {q : List Nat} (he : okE s) {h : eH} {Q : Option Value → eH → Prop} (hv : rdV d s h) (kk : EE mX15_serve 4 95 0 0 Q 356 [some (.ref m), some (.ref d), some (.ref a), some (.int (nI q.length)), none, some (.int (nI (bts (dL s 0) 0 8))), none] [] h 0 0) : ∀ (n : Nat) (i : Nat), 8 - i < n → i ≤ 8 → EE mX15_serve 4 95 0 0 (Q) 315 [some (.ref m), some (.ref d), some (.ref a), some (.int (nI q.length)), none, some (.int (nI (bts (dL s 0) 0 i))), some (.int (nI i))] [] h 0 0 := by
  intro n
  induction n with
  | zero => intro i hlt hle; exact absurd hlt (by omega)
  | succ n ih =>
    intro i hlt hle
    have ho := okE_pl he (k := 0) (by decide)
    have hv9 := hv
    obtain ⟨A, v0, v1, v2, v3, v4, v5, v6, v7, v8, v9, v10, v11, v12, v13, v14, v15, v16, v17, v18, v19, v20, v21⟩ := hv9
    refine e_iload 317 dX15_serve_315 rfl rfl ?_
    refine e_bipush 319 (v := (nI 8)) dX15_serve_317 rfl (by decide) ?_
    refine e_icmp_ge 356 322 dX15_serve_319 rfl rfl (fun c319 => ?_) (fun c319 => ?_)
    · have k319 := j_ge_t (a := i) (b := 8) (by omega) (by omega) c319
      have e9 : bts (dL s 0) 0 8 = bts (dL s 0) 0 i := by (rcases (show i = 8 ∨ (dL s 0).length ≤ i by omega) with z | z; rw [z]; rw [show 8 = i + (8 - i) by omega, bts_pad z])
      refine e_wk [some (.ref m), some (.ref d), some (.ref a), some (.int (nI q.length)), none, some (.int (nI (bts (dL s 0) 0 i))), none] ⟨rfl, rfl, rfl, rfl, rfl, trivial⟩ ?_
      rw [← e9]
      exact kk
    · have k319 := j_ge_f (a := i) (b := 8) (by omega) (by omega) c319
      refine e_iload 324 dX15_serve_322 rfl rfl ?_
      refine e_aload_n 325 dX15_serve_324 rfl rfl ?_
      refine e_get 328 dX15_serve_325 rfl fl_X15_172_10 v0 rfl ?_
      refine e_iconst 329 (v := (nI 0)) dX15_serve_328 rfl (by decide) ?_
      refine v_iald 330 v4 (k := 0) (x := (dL s 0).length) dX15_serve_329 rfl (by simp only [tbl_len, kys_len, szs_len, List.length_reverse] <;> omega) (by omega) (tbl_at (by omega)) ?_
      refine e_icmp_ge 356 333 dX15_serve_330 rfl rfl (fun c330 => ?_) (fun c330 => ?_)
      · have k330 := j_ge_t (a := i) (b := ((dL s 0).length)) (by omega) (by omega) c330
        have e9 : bts (dL s 0) 0 8 = bts (dL s 0) 0 i := by (rcases (show i = 8 ∨ (dL s 0).length ≤ i by omega) with z | z; rw [z]; rw [show 8 = i + (8 - i) by omega, bts_pad z])
        refine e_wk [some (.ref m), some (.ref d), some (.ref a), some (.int (nI q.length)), none, some (.int (nI (bts (dL s 0) 0 i))), none] ⟨rfl, rfl, rfl, rfl, rfl, trivial⟩ ?_
        rw [← e9]
        exact kk
      · have k330 := j_ge_f (a := i) (b := ((dL s 0).length)) (by omega) (by omega) c330
        have b9 : ((dL s 0).getD i 0) < 2 := gd_lt he.2.1.1 (by decide)
        refine e_iload 335 dX15_serve_333 rfl rfl ?_
        refine e_aload_n 336 dX15_serve_335 rfl rfl ?_
        refine e_get 339 dX15_serve_336 rfl fl_X15_175_10 v0 rfl ?_
        refine e_iconst 340 (v := (nI 0)) dX15_serve_339 rfl (by decide) ?_
        refine v_aald 341 v2 (k := 0) dX15_serve_340 rfl (by omega) (by omega) (fun b340 y340 => ?_)
        refine e_iload 343 dX15_serve_341 rfl rfl ?_
        refine v_iald 344 y340 (k := i) (x := ((dL s 0).getD i 0)) dX15_serve_343 rfl (by omega) (by omega) rfl ?_
        refine e_iload 346 dX15_serve_344 rfl rfl ?_
        refine e_ishl 347 (v := (nI (((dL s 0).getD i 0) * 2 ^ i))) dX15_serve_346 rfl (shl_nI (by omega) b9) ?_
        refine e_iadd 348 (v := (nI (bts (dL s 0) 0 (i + 1)))) dX15_serve_347 rfl (by rw [nI_add, bts_s b9 (by rw [Nat.zero_add])]) ?_
        refine e_istore 350 (ls' := [some (.ref m), some (.ref d), some (.ref a), some (.int (nI q.length)), none, some (.int (nI (bts (dL s 0) 0 (i + 1)))), some (.int (nI i))]) dX15_serve_348 rfl (by decide) rfl ?_
        refine e_iinc 353 (v := (nI (i + 1))) (ls' := [some (.ref m), some (.ref d), some (.ref a), some (.int (nI q.length)), none, some (.int (nI (bts (dL s 0) 0 (i + 1)))), some (.int (nI (i + 1)))]) dX15_serve_350 rfl rfl (nI_add i 1) (by decide) rfl ?_
        refine e_goto 315 dX15_serve_353 rfl ?_
        refine e_wk [some (.ref m), some (.ref d), some (.ref a), some (.int (nI q.length)), none, some (.int (nI (bts (dL s 0) 0 (i + 1)))), some (.int (nI (i + 1)))] ⟨rfl, rfl, rfl, rfl, rfl, rfl, trivial⟩ ?_
        exact ih (i + 1) (by omega) (by omega)
theorem okD_5 {s : DS} (h : okD s) : ∀ x ∈ (dL s 5).reverse, x < 256 := fun x hx => h.2.2.2.2.2.2.2.1 x (List.mem_reverse.mp hx)
set_option maxRecDepth 20000 in
set_option maxHeartbeats 2000000 in
theorem l_serve12 {m d a qn : Nat} {F w : Nat → Nat} {bg : Bool} {s : DS} {q : List Nat} (he : okE s) (hok : okD s) (hqn : qn < 100000) (hq : ∀ x ∈ q, x < 256) (h1 : 1 ≤ q.length) (hl9 : q.length ≤ 253) {r : List Nat} (hr : r.length + (dL s 5).length ≤ 253) {Q : Option Value → eH → Prop} (kk : ∀ h : eH, stars [ansP m F w bg (r ++ (dL s 5).reverse), rdv d s, iar a qn q] h → EE mX15_serve 4 95 0 0 Q 478 [some (.ref m), some (.ref d), some (.ref a), some (.int (nI q.length)), none, none, none] [] h 0 0) : ∀ (n : Nat) (i : Nat) (h : eH), (dL s 5).length - i < n → i ≤ (dL s 5).length → stars [ansP m F w bg (r ++ (dL s 5).reverse.take i), rdv d s, iar a qn q] h → EE mX15_serve 4 95 0 0 (Q) 452 [some (.ref m), some (.ref d), some (.ref a), some (.int (nI q.length)), none, some (.int (nI i)), none] [] h 0 0 := by
  intro n
  induction n with
  | zero => intro i h hlt hle hL; exact absurd hlt (by omega)
  | succ n ih =>
    intro i h hlt hle hL
    have h5l := (okE_ln he).2.1
    refine e_iload 454 dX15_serve_452 rfl rfl ?_
    refine e_aload_n 455 dX15_serve_454 rfl rfl ?_
    obtain ⟨A455, v455_0, v455_1, v455_2, v455_3, v455_4, v455_5, v455_6, v455_7, v455_8, v455_9, v455_10, v455_11, v455_12, v455_13, v455_14, v455_15, v455_16, v455_17, v455_18, v455_19, v455_20, v455_21⟩ := rdv_V _ 1 hL rfl
    refine e_get 458 dX15_serve_455 rfl fl_X15_189_10 v455_0 rfl ?_
    refine e_icmp_ge 478 461 dX15_serve_458 rfl rfl (fun c458 => ?_) (fun c458 => ?_)
    · have k458 := j_ge_t (a := i) (b := (dL s 5).length) (by omega) (by omega) c458
      rw [List.take_of_length_le (by rw [List.length_reverse]; omega)] at hL
      refine e_wk [some (.ref m), some (.ref d), some (.ref a), some (.int (nI q.length)), none, none, none] ⟨rfl, rfl, rfl, rfl, trivial⟩ ?_
      exact kk h hL
    · have k458 := j_ge_f (a := i) (b := (dL s 5).length) (by omega) (by omega) c458
      refine e_aload_n 462 dX15_serve_461 rfl rfl ?_
      refine e_aload_n 463 dX15_serve_462 rfl rfl ?_
      refine e_get 466 dX15_serve_463 rfl fl_X15_192_10 v455_0 rfl ?_
      refine e_iload 468 dX15_serve_466 rfl rfl ?_
      have b468 := gd_lt (i := i) (okD_5 hok) (by decide)
      refine v_iald 469 v455_20 (k := i) (x := (((dL s 5).reverse).getD i 0)) dX15_serve_468 rfl (by rw [List.length_reverse]; omega) (by omega) rfl ?_
      refine p_callV 472 hL [0, 1, 2] 3 rfl (by decide) (L1 := [ansP m F w bg (r ++ (dL s 5).reverse.take i)]) (L2 := [rdv d s, iar a qn q]) rfl ans_O 0 rfl dX15_serve_469 rfl cv_X15_92 (k_saysB (by rw [List.length_append, List.length_take, List.length_reverse]; omega) (by omega)) rfl rfl (Nat.le_of_ble_eq_true rfl) ⟨by decide, by omega, by omega⟩ (fun r1 L1 h q hL => ?_)
      obtain ⟨rfl, rfl⟩ := q
      have hL : stars [ansP m F w bg ((r ++ (dL s 5).reverse.take i) ++ [(((dL s 5).reverse).getD i 0)]), rdv d s, iar a qn q] h := hL
      refine e_iinc 475 (v := (nI (i + 1))) (ls' := [some (.ref m), some (.ref d), some (.ref a), some (.int (nI q.length)), none, some (.int (nI (i + 1))), none]) dX15_serve_472 rfl rfl (nI_add i 1) (by decide) rfl ?_
      refine e_goto 452 dX15_serve_475 rfl ?_
      rw [List.append_assoc, ← take_gd (by rw [List.length_reverse]; omega)] at hL
      have hL : stars [ansP m F w bg (r ++ (dL s 5).reverse.take (i + 1)), rdv d s, iar a qn q] h := hL
      refine e_wk [some (.ref m), some (.ref d), some (.ref a), some (.int (nI q.length)), none, some (.int (nI (i + 1))), none] ⟨rfl, rfl, rfl, rfl, rfl, trivial⟩ ?_
      exact ih (i + 1) h (by omega) (by omega) hL
theorem nx_1 {v : Nat} : nI v &&& nI 1 = nI (v % 2) := by rw [nx_and]; exact congrArg nI (Nat.and_two_pow_sub_one_eq_mod v 1)
set_option maxRecDepth 20000 in
set_option maxHeartbeats 2000000 in
theorem l_serve15 {m d a qn : Nat} {F w : Nat → Nat} {bg : Bool} {s : DS} {q : List Nat} (he : okE s) (hok : okD s) (hqn : qn < 100000) (hq : ∀ x ∈ q, x < 256) (h1 : 1 ≤ q.length) (hl9 : q.length ≤ 253) (hN : wd q 3 ≤ 1968) (hL6 : 6 + (wd q 3 + 7) / 8 ≤ q.length) (hp : dF s 0 ≤ wd q 1 ∧ wd q 1 + wd q 3 ≤ dF s 0 + (dL s 0).length) {Q : Option Value → eH → Prop} (kk : ∀ h : eH, stars [ansP m F w bg ([]), rdv d (blD s 0 (wbF q (dF s 0) (dL s 0) (wd q 3))), iar a qn q] h → EE mX15_serve 4 95 0 0 Q 531 [some (.ref m), some (.ref d), some (.ref a), some (.int (nI q.length)), none, none, none] [] h 0 0) : ∀ (n : Nat) (i : Nat) (h : eH), (wd q 3) - i < n → i ≤ (wd q 3) → stars [ansP m F w bg ([]), rdv d (blD s 0 (wbF q (dF s 0) (dL s 0) i)), iar a qn q] h → EE mX15_serve 4 95 0 0 (Q) 484 [some (.ref m), some (.ref d), some (.ref a), some (.int (nI q.length)), none, some (.int (nI i)), none] [] h 0 0 := by
  intro n
  induction n with
  | zero => intro i h hlt hle hL; exact absurd hlt (by omega)
  | succ n ih =>
    intro i h hlt hle hL
    have ho := okE_pl he (k := 0) (by decide)
    have hqle := (iar_V _ 2 hL rfl).le
    have hw1 := wd_lt (k := 1) hq
    have hw5 := wd_lt (k := 5) hq
    refine e_iload 486 dX15_serve_484 rfl rfl ?_
    refine e_aload_n 487 dX15_serve_486 rfl rfl ?_
    refine e_iconst 488 (v := (nI 3)) dX15_serve_487 rfl (by decide) ?_
    refine u_callS 491 dX15_serve_488 rfl cs_X15_85 (u_X15_two (iar_V _ 2 hL rfl) (k := 3) (by omega) (by omega)) rfl rfl (Nat.le_of_ble_eq_true rfl) (by decide) ⟨by omega, by omega⟩ ?_
    have hw488 := wd_lt (k := 3) hq
    refine e_icmp_ge 531 494 dX15_serve_491 rfl rfl (fun c491 => ?_) (fun c491 => ?_)
    · have k491 := j_ge_t (a := i) (b := (wd q 3)) (by omega) (by omega) c491
      have e9 : i = (wd q 3) := by omega
      rw [e9] at hL
      refine e_wk [some (.ref m), some (.ref d), some (.ref a), some (.int (nI q.length)), none, none, none] ⟨rfl, rfl, rfl, rfl, trivial⟩ ?_
      exact kk h hL
    · have k491 := j_ge_f (a := i) (b := (wd q 3)) (by omega) (by omega) c491
      refine e_aload_n 495 dX15_serve_494 rfl rfl ?_
      refine e_iconst 496 (v := (nI 0)) dX15_serve_495 rfl (by decide) ?_
      refine e_aload_n 497 dX15_serve_496 rfl rfl ?_
      refine e_iconst 498 (v := (nI 1)) dX15_serve_497 rfl (by decide) ?_
      refine u_callS 501 dX15_serve_498 rfl cs_X15_85 (u_X15_two (iar_V _ 2 hL rfl) (k := 1) (by omega) (by omega)) rfl rfl (Nat.le_of_ble_eq_true rfl) (by decide) ⟨by omega, by omega⟩ ?_
      have hw498 := wd_lt (k := 1) hq
      refine e_iload 503 dX15_serve_501 rfl rfl ?_
      refine e_iadd 504 (v := (nI ((wd q 1) + i))) dX15_serve_503 rfl (nI_add (wd q 1) i) ?_
      refine e_aload_n 505 dX15_serve_504 rfl rfl ?_
      refine e_bipush 507 (v := (nI 6)) dX15_serve_505 rfl (by decide) ?_
      refine e_iload 509 dX15_serve_507 rfl rfl ?_
      refine e_bipush 511 (v := (nI 8)) dX15_serve_509 rfl (by decide) ?_
      refine e_idiv 512 (v := (nI (i / 8))) dX15_serve_511 rfl (by decide) (pk_div (by omega) (by decide) (by decide)) ?_
      refine e_iadd 513 (v := (nI (6 + (i / 8)))) dX15_serve_512 rfl (nI_add 6 (i / 8)) ?_
      have b513 := gd_lt (i := (6 + (i / 8))) hq (by decide)
      refine v_iald 514 (iar_V _ 2 hL rfl) (k := (6 + (i / 8))) (x := (q.getD (6 + (i / 8)) 0)) dX15_serve_513 rfl (by omega) (by omega) rfl ?_
      refine e_iload 516 dX15_serve_514 rfl rfl ?_
      refine e_bipush 518 (v := (nI 8)) dX15_serve_516 rfl (by decide) ?_
      refine e_irem 519 (v := (nI (i % 8))) dX15_serve_518 rfl (by decide) (pk_rem (by omega) (by decide) (by decide)) ?_
      refine e_ishr 520 (v := (nI (q.getD (6 + i / 8) 0 / 2 ^ (i % 8)))) dX15_serve_519 rfl (shr8 (by omega) (by omega)) ?_
      refine e_iconst 521 (v := (nI 1)) dX15_serve_520 rfl (by decide) ?_
      refine e_iand 522 (v := (nI (q.getD (6 + i / 8) 0 / 2 ^ (i % 8) % 2))) dX15_serve_521 rfl nx_1 ?_
      refine p_callV 525 hL [1, 0, 2] 3 rfl (by decide) (L1 := [rdv d (blD s 0 (wbF q (dF s 0) (dL s 0) i))]) (L2 := [ansP m F w bg ([]), iar a qn q]) rfl rdv_O 1 rfl dX15_serve_522 rfl cv_X15_164 (k_X12_put (s := (blD s 0 (wbF q (dF s 0) (dL s 0) i))) (k := 0) (by show (wbF q (dF s 0) (dL s 0) i).length ≤ 400 ∧ dF s 0 + (wbF q (dF s 0) (dL s 0) i).length ≤ 65536; rw [wbF_len]; exact ho) (by decide) (by show dF s 0 ≤ ((wd q 1) + i) ∧ ((wd q 1) + i) < dF s 0 + (wbF q (dF s 0) (dL s 0) i).length; rw [wbF_len]; omega)) rfl rfl (Nat.le_of_ble_eq_true rfl) ⟨by decide, by omega, by omega⟩ (fun r1 L1 h q hL => ?_)
      obtain ⟨rfl, rfl⟩ := q
      have hL : stars [rdv d (puD (blD s 0 (wbF q (dF s 0) (dL s 0) i)) 0 (((wd q 1) + i) - dF s 0) (q.getD (6 + i / 8) 0 / 2 ^ (i % 8) % 2)), ansP m F w bg ([]), iar a qn q] h := hL
      have hL : stars [ansP m F w bg ([]), rdv d (puD (blD s 0 (wbF q (dF s 0) (dL s 0) i)) 0 (((wd q 1) + i) - dF s 0) (q.getD (6 + i / 8) 0 / 2 ^ (i % 8) % 2)), iar a qn q] h := stars_ixn hL 3 rfl [1, 0, 2] (by decide) rfl
      rw [pu_bl] at hL
      have hL : stars [ansP m F w bg ([]), rdv d (blD s 0 (wbF q (dF s 0) (dL s 0) (i + 1))), iar a qn q] h := hL
      refine e_iinc 528 (v := (nI (i + 1))) (ls' := [some (.ref m), some (.ref d), some (.ref a), some (.int (nI q.length)), none, some (.int (nI (i + 1))), none]) dX15_serve_525 rfl rfl (nI_add i 1) (by decide) rfl ?_
      refine e_goto 484 dX15_serve_528 rfl ?_
      refine e_wk [some (.ref m), some (.ref d), some (.ref a), some (.int (nI q.length)), none, some (.int (nI (i + 1))), none] ⟨rfl, rfl, rfl, rfl, rfl, trivial⟩ ?_
      exact ih (i + 1) h (by omega) (by omega) hL
set_option maxRecDepth 20000 in
set_option maxHeartbeats 2000000 in
theorem l_serve16 {m d a qn : Nat} {F w : Nat → Nat} {bg : Bool} {s : DS} {q : List Nat} (he : okE s) (hok : okD s) (hqn : qn < 100000) (hq : ∀ x ∈ q, x < 256) (h1 : 1 ≤ q.length) (hl9 : q.length ≤ 253) (hN : wd q 3 ≤ 123) (hL6 : 6 + 2 * wd q 3 ≤ q.length) (hp : dF s 2 ≤ wd q 1 ∧ wd q 1 + wd q 3 ≤ dF s 2 + (dL s 2).length) {Q : Option Value → eH → Prop} (kk : ∀ h : eH, stars [ansP m F w bg ([]), rdv d (blD s 2 (wwF q (dF s 2) (wd q 1) 6 (dL s 2) (wd q 3))), iar a qn q] h → EE mX15_serve 4 95 0 0 Q 583 [some (.ref m), some (.ref d), some (.ref a), some (.int (nI q.length)), none, none, none] [] h 0 0) : ∀ (n : Nat) (i : Nat) (h : eH), (wd q 3) - i < n → i ≤ (wd q 3) → stars [ansP m F w bg ([]), rdv d (blD s 2 (wwF q (dF s 2) (wd q 1) 6 (dL s 2) i)), iar a qn q] h → EE mX15_serve 4 95 0 0 (Q) 543 [some (.ref m), some (.ref d), some (.ref a), some (.int (nI q.length)), none, some (.int (nI i)), none] [] h 0 0 := by
  intro n
  induction n with
  | zero => intro i h hlt hle hL; exact absurd hlt (by omega)
  | succ n ih =>
    intro i h hlt hle hL
    have ho := okE_pl he (k := 2) (by decide)
    have hqle := (iar_V _ 2 hL rfl).le
    have hw1 := wd_lt (k := 1) hq
    have hw5 := wd_lt (k := 5) hq
    refine e_iload 545 dX15_serve_543 rfl rfl ?_
    refine e_aload_n 546 dX15_serve_545 rfl rfl ?_
    refine e_iconst 547 (v := (nI 3)) dX15_serve_546 rfl (by decide) ?_
    refine u_callS 550 dX15_serve_547 rfl cs_X15_85 (u_X15_two (iar_V _ 2 hL rfl) (k := 3) (by omega) (by omega)) rfl rfl (Nat.le_of_ble_eq_true rfl) (by decide) ⟨by omega, by omega⟩ ?_
    have hw547 := wd_lt (k := 3) hq
    refine e_icmp_ge 583 553 dX15_serve_550 rfl rfl (fun c550 => ?_) (fun c550 => ?_)
    · have k550 := j_ge_t (a := i) (b := (wd q 3)) (by omega) (by omega) c550
      have e9 : i = (wd q 3) := by omega
      rw [e9] at hL
      refine e_wk [some (.ref m), some (.ref d), some (.ref a), some (.int (nI q.length)), none, none, none] ⟨rfl, rfl, rfl, rfl, trivial⟩ ?_
      exact kk h hL
    · have k550 := j_ge_f (a := i) (b := (wd q 3)) (by omega) (by omega) c550
      refine e_aload_n 554 dX15_serve_553 rfl rfl ?_
      refine e_iconst 555 (v := (nI 2)) dX15_serve_554 rfl (by decide) ?_
      refine e_aload_n 556 dX15_serve_555 rfl rfl ?_
      refine e_iconst 557 (v := (nI 1)) dX15_serve_556 rfl (by decide) ?_
      refine u_callS 560 dX15_serve_557 rfl cs_X15_85 (u_X15_two (iar_V _ 2 hL rfl) (k := 1) (by omega) (by omega)) rfl rfl (Nat.le_of_ble_eq_true rfl) (by decide) ⟨by omega, by omega⟩ ?_
      have hw557 := wd_lt (k := 1) hq
      refine e_iload 562 dX15_serve_560 rfl rfl ?_
      refine e_iadd 563 (v := (nI ((wd q 1) + i))) dX15_serve_562 rfl (nI_add (wd q 1) i) ?_
      refine e_aload_n 564 dX15_serve_563 rfl rfl ?_
      refine e_bipush 566 (v := (nI 6)) dX15_serve_564 rfl (by decide) ?_
      refine e_iconst 567 (v := (nI 2)) dX15_serve_566 rfl (by decide) ?_
      refine e_iload 569 dX15_serve_567 rfl rfl ?_
      refine e_imul 570 (v := (nI (2 * i))) dX15_serve_569 rfl (pk_mul 2 i) ?_
      refine e_iadd 571 (v := (nI (6 + (2 * i)))) dX15_serve_570 rfl (nI_add 6 (2 * i)) ?_
      refine u_callS 574 dX15_serve_571 rfl cs_X15_85 (u_X15_two (iar_V _ 2 hL rfl) (k := (6 + (2 * i))) (by omega) (by omega)) rfl rfl (Nat.le_of_ble_eq_true rfl) (by decide) ⟨by omega, by omega⟩ ?_
      have hw571 := wd_lt (k := (6 + (2 * i))) hq
      refine p_callV 577 hL [1, 0, 2] 3 rfl (by decide) (L1 := [rdv d (blD s 2 (wwF q (dF s 2) (wd q 1) 6 (dL s 2) i))]) (L2 := [ansP m F w bg ([]), iar a qn q]) rfl rdv_O 1 rfl dX15_serve_574 rfl cv_X15_164 (k_X12_put (s := (blD s 2 (wwF q (dF s 2) (wd q 1) 6 (dL s 2) i))) (k := 2) (by show (wwF q (dF s 2) (wd q 1) 6 (dL s 2) i).length ≤ 400 ∧ dF s 2 + (wwF q (dF s 2) (wd q 1) 6 (dL s 2) i).length ≤ 65536; rw [wwF_len]; exact ho) (by decide) (by show dF s 2 ≤ ((wd q 1) + i) ∧ ((wd q 1) + i) < dF s 2 + (wwF q (dF s 2) (wd q 1) 6 (dL s 2) i).length; rw [wwF_len]; omega)) rfl rfl (Nat.le_of_ble_eq_true rfl) ⟨by decide, by omega, by omega⟩ (fun r1 L1 h q hL => ?_)
      obtain ⟨rfl, rfl⟩ := q
      have hL : stars [rdv d (puD (blD s 2 (wwF q (dF s 2) (wd q 1) 6 (dL s 2) i)) 2 (((wd q 1) + i) - dF s 2) (wd q (6 + (2 * i)))), ansP m F w bg ([]), iar a qn q] h := hL
      have hL : stars [ansP m F w bg ([]), rdv d (puD (blD s 2 (wwF q (dF s 2) (wd q 1) 6 (dL s 2) i)) 2 (((wd q 1) + i) - dF s 2) (wd q (6 + (2 * i)))), iar a qn q] h := stars_ixn hL 3 rfl [1, 0, 2] (by decide) rfl
      rw [pu_bl] at hL
      have hL : stars [ansP m F w bg ([]), rdv d (blD s 2 (wwF q (dF s 2) (wd q 1) 6 (dL s 2) (i + 1))), iar a qn q] h := hL
      refine e_iinc 580 (v := (nI (i + 1))) (ls' := [some (.ref m), some (.ref d), some (.ref a), some (.int (nI q.length)), none, some (.int (nI (i + 1))), none]) dX15_serve_577 rfl rfl (nI_add i 1) (by decide) rfl ?_
      refine e_goto 543 dX15_serve_580 rfl ?_
      refine e_wk [some (.ref m), some (.ref d), some (.ref a), some (.int (nI q.length)), none, some (.int (nI (i + 1))), none] ⟨rfl, rfl, rfl, rfl, rfl, trivial⟩ ?_
      exact ih (i + 1) h (by omega) (by omega) hL
set_option maxRecDepth 20000 in
set_option maxHeartbeats 2000000 in
theorem l_serve23 {m d a qn : Nat} {F w : Nat → Nat} {bg : Bool} {s : DS} {q : List Nat} (he : okE s) (hok : okD s) (hqn : qn < 100000) (hq : ∀ x ∈ q, x < 256) (h1 : 1 ≤ q.length) (hl9 : q.length ≤ 253) (hN : wd q 7 ≤ 121) (hL6 : 10 + 2 * wd q 7 ≤ q.length) (hp : dF s 2 ≤ wd q 5 ∧ wd q 5 + wd q 7 ≤ dF s 2 + (dL s 2).length) {Q : Option Value → eH → Prop} (kk : ∀ h : eH, stars [ansP m F w bg ([]), rdv d (blD s 2 (wwF q (dF s 2) (wd q 5) 10 (dL s 2) (wd q 7))), iar a qn q] h → EE mX15_serve 4 95 0 0 Q 715 [some (.ref m), some (.ref d), some (.ref a), some (.int (nI q.length)), none, none, none] [] h 0 0) : ∀ (n : Nat) (i : Nat) (h : eH), (wd q 7) - i < n → i ≤ (wd q 7) → stars [ansP m F w bg ([]), rdv d (blD s 2 (wwF q (dF s 2) (wd q 5) 10 (dL s 2) i)), iar a qn q] h → EE mX15_serve 4 95 0 0 (Q) 674 [some (.ref m), some (.ref d), some (.ref a), some (.int (nI q.length)), none, some (.int (nI i)), none] [] h 0 0 := by
  intro n
  induction n with
  | zero => intro i h hlt hle hL; exact absurd hlt (by omega)
  | succ n ih =>
    intro i h hlt hle hL
    have ho := okE_pl he (k := 2) (by decide)
    have hqle := (iar_V _ 2 hL rfl).le
    have hw1 := wd_lt (k := 1) hq
    have hw5 := wd_lt (k := 5) hq
    refine e_iload 676 dX15_serve_674 rfl rfl ?_
    refine e_aload_n 677 dX15_serve_676 rfl rfl ?_
    refine e_bipush 679 (v := (nI 7)) dX15_serve_677 rfl (by decide) ?_
    refine u_callS 682 dX15_serve_679 rfl cs_X15_85 (u_X15_two (iar_V _ 2 hL rfl) (k := 7) (by omega) (by omega)) rfl rfl (Nat.le_of_ble_eq_true rfl) (by decide) ⟨by omega, by omega⟩ ?_
    have hw679 := wd_lt (k := 7) hq
    refine e_icmp_ge 715 685 dX15_serve_682 rfl rfl (fun c682 => ?_) (fun c682 => ?_)
    · have k682 := j_ge_t (a := i) (b := (wd q 7)) (by omega) (by omega) c682
      have e9 : i = (wd q 7) := by omega
      rw [e9] at hL
      refine e_wk [some (.ref m), some (.ref d), some (.ref a), some (.int (nI q.length)), none, none, none] ⟨rfl, rfl, rfl, rfl, trivial⟩ ?_
      exact kk h hL
    · have k682 := j_ge_f (a := i) (b := (wd q 7)) (by omega) (by omega) c682
      refine e_aload_n 686 dX15_serve_685 rfl rfl ?_
      refine e_iconst 687 (v := (nI 2)) dX15_serve_686 rfl (by decide) ?_
      refine e_aload_n 688 dX15_serve_687 rfl rfl ?_
      refine e_iconst 689 (v := (nI 5)) dX15_serve_688 rfl (by decide) ?_
      refine u_callS 692 dX15_serve_689 rfl cs_X15_85 (u_X15_two (iar_V _ 2 hL rfl) (k := 5) (by omega) (by omega)) rfl rfl (Nat.le_of_ble_eq_true rfl) (by decide) ⟨by omega, by omega⟩ ?_
      have hw689 := wd_lt (k := 5) hq
      refine e_iload 694 dX15_serve_692 rfl rfl ?_
      refine e_iadd 695 (v := (nI ((wd q 5) + i))) dX15_serve_694 rfl (nI_add (wd q 5) i) ?_
      refine e_aload_n 696 dX15_serve_695 rfl rfl ?_
      refine e_bipush 698 (v := (nI 10)) dX15_serve_696 rfl (by decide) ?_
      refine e_iconst 699 (v := (nI 2)) dX15_serve_698 rfl (by decide) ?_
      refine e_iload 701 dX15_serve_699 rfl rfl ?_
      refine e_imul 702 (v := (nI (2 * i))) dX15_serve_701 rfl (pk_mul 2 i) ?_
      refine e_iadd 703 (v := (nI (10 + (2 * i)))) dX15_serve_702 rfl (nI_add 10 (2 * i)) ?_
      refine u_callS 706 dX15_serve_703 rfl cs_X15_85 (u_X15_two (iar_V _ 2 hL rfl) (k := (10 + (2 * i))) (by omega) (by omega)) rfl rfl (Nat.le_of_ble_eq_true rfl) (by decide) ⟨by omega, by omega⟩ ?_
      have hw703 := wd_lt (k := (10 + (2 * i))) hq
      refine p_callV 709 hL [1, 0, 2] 3 rfl (by decide) (L1 := [rdv d (blD s 2 (wwF q (dF s 2) (wd q 5) 10 (dL s 2) i))]) (L2 := [ansP m F w bg ([]), iar a qn q]) rfl rdv_O 1 rfl dX15_serve_706 rfl cv_X15_164 (k_X12_put (s := (blD s 2 (wwF q (dF s 2) (wd q 5) 10 (dL s 2) i))) (k := 2) (by show (wwF q (dF s 2) (wd q 5) 10 (dL s 2) i).length ≤ 400 ∧ dF s 2 + (wwF q (dF s 2) (wd q 5) 10 (dL s 2) i).length ≤ 65536; rw [wwF_len]; exact ho) (by decide) (by show dF s 2 ≤ ((wd q 5) + i) ∧ ((wd q 5) + i) < dF s 2 + (wwF q (dF s 2) (wd q 5) 10 (dL s 2) i).length; rw [wwF_len]; omega)) rfl rfl (Nat.le_of_ble_eq_true rfl) ⟨by decide, by omega, by omega⟩ (fun r1 L1 h q hL => ?_)
      obtain ⟨rfl, rfl⟩ := q
      have hL : stars [rdv d (puD (blD s 2 (wwF q (dF s 2) (wd q 5) 10 (dL s 2) i)) 2 (((wd q 5) + i) - dF s 2) (wd q (10 + (2 * i)))), ansP m F w bg ([]), iar a qn q] h := hL
      have hL : stars [ansP m F w bg ([]), rdv d (puD (blD s 2 (wwF q (dF s 2) (wd q 5) 10 (dL s 2) i)) 2 (((wd q 5) + i) - dF s 2) (wd q (10 + (2 * i)))), iar a qn q] h := stars_ixn hL 3 rfl [1, 0, 2] (by decide) rfl
      rw [pu_bl] at hL
      have hL : stars [ansP m F w bg ([]), rdv d (blD s 2 (wwF q (dF s 2) (wd q 5) 10 (dL s 2) (i + 1))), iar a qn q] h := hL
      refine e_iinc 712 (v := (nI (i + 1))) (ls' := [some (.ref m), some (.ref d), some (.ref a), some (.int (nI q.length)), none, some (.int (nI (i + 1))), none]) dX15_serve_709 rfl rfl (nI_add i 1) (by decide) rfl ?_
      refine e_goto 674 dX15_serve_712 rfl ?_
      refine e_wk [some (.ref m), some (.ref d), some (.ref a), some (.int (nI q.length)), none, some (.int (nI (i + 1))), none] ⟨rfl, rfl, rfl, rfl, rfl, trivial⟩ ?_
      exact ih (i + 1) h (by omega) (by omega) hL
theorem okD_S {s : DS} (h : okD s) (k : Nat) : okM 65536 (dS s k) := h.2.2.2.2.1 k
set_option maxRecDepth 20000 in
set_option maxHeartbeats 2000000 in
theorem l_serve24 {m d a qn : Nat} {F w : Nat → Nat} {bg : Bool} {s : DS} {q : List Nat} (he : okE s) (hok : okD s) (hqn : qn < 100000) (hq : ∀ x ∈ q, x < 256) (h1 : 1 ≤ q.length) (hl9 : q.length ≤ 253) {k : Nat} (hk : k < (dS s 1).length) (hr : (rwM (dS s 1) k).length ≤ 31) {Q : Option Value → eH → Prop} (kk : ∀ h : eH, stars [ansP m F w bg (tqR (rwM (dS s 1) k) (rwM (dS s 1) k).length), rdv d s, iar a qn q] h → EE mX15_serve 4 95 0 0 Q 814 [some (.ref m), some (.ref d), some (.ref a), some (.int (nI q.length)), none, none, none] [] h 0 0) : ∀ (n : Nat) (i : Nat) (h : eH), (rwM (dS s 1) k).length - i < n → i ≤ (rwM (dS s 1) k).length → stars [ansP m F w bg (tqR (rwM (dS s 1) k) i), rdv d s, iar a qn q] h → EE mX15_serve 4 95 0 0 (Q) 782 [some (.ref m), some (.ref d), some (.ref a), some (.int (nI q.length)), none, some (.int (nI k)), some (.int (nI i))] [] h 0 0 := by
  intro n
  induction n with
  | zero => intro i h hlt hle hL; exact absurd hlt (by omega)
  | succ n ih =>
    intro i h hlt hle hL
    have hs4 := shO_le (okE_sh he).2.1
    refine e_iload 784 dX15_serve_782 rfl rfl ?_
    refine e_aload_n 785 dX15_serve_784 rfl rfl ?_
    obtain ⟨A785, v785_0, v785_1, v785_2, v785_3, v785_4, v785_5, v785_6, v785_7, v785_8, v785_9, v785_10, v785_11, v785_12, v785_13, v785_14, v785_15, v785_16, v785_17, v785_18, v785_19, v785_20, v785_21⟩ := rdv_V _ 1 hL rfl
    refine e_get 788 dX15_serve_785 rfl fl_X15_131_10 v785_0 rfl ?_
    refine e_iload 790 dX15_serve_788 rfl rfl ?_
    refine v_iald 791 v785_13 (k := k) (x := (rwM (dS s 1) k).length) dX15_serve_790 rfl (by simp only [szs_len] <;> omega) (by omega) szs_at ?_
    refine e_icmp_ge 814 794 dX15_serve_791 rfl rfl (fun c791 => ?_) (fun c791 => ?_)
    · have k791 := j_ge_t (a := i) (b := ((rwM (dS s 1) k).length)) (by omega) (by omega) c791
      have e9 : i = (rwM (dS s 1) k).length := by omega
      rw [e9] at hL
      refine e_wk [some (.ref m), some (.ref d), some (.ref a), some (.int (nI q.length)), none, none, none] ⟨rfl, rfl, rfl, rfl, trivial⟩ ?_
      exact kk h hL
    · have k791 := j_ge_f (a := i) (b := ((rwM (dS s 1) k).length)) (by omega) (by omega) c791
      refine e_aload_n 795 dX15_serve_794 rfl rfl ?_
      refine e_aload_n 796 dX15_serve_795 rfl rfl ?_
      refine e_get 799 dX15_serve_796 rfl fl_X15_204_10 v785_0 rfl ?_
      refine e_iload 801 dX15_serve_799 rfl rfl ?_
      refine v_aald 802 v785_14 (k := k) dX15_serve_801 rfl (by omega) (by omega) (fun b801 y801 => ?_)
      refine e_iload 804 dX15_serve_802 rfl rfl ?_
      have b804 := gd_lt (i := i) (okM_at (i := k) (okD_S hok 1)) (by decide)
      refine v_iald 805 y801 (k := i) (x := ((rwM (dS s 1) k).getD i 0)) dX15_serve_804 rfl (by omega) (by omega) rfl ?_
      refine p_callV 808 hL [0, 1, 2] 3 rfl (by decide) (L1 := [ansP m F w bg (tqR (rwM (dS s 1) k) i)]) (L2 := [rdv d s, iar a qn q]) rfl ans_O 0 rfl dX15_serve_805 rfl cv_X15_183 (k_X15_saysTwo (by rw [tqR_len (by omega)]; omega) (by omega)) rfl rfl (Nat.le_of_ble_eq_true rfl) ⟨by decide, by omega, by omega⟩ (fun r1 L1 h q hL => ?_)
      obtain ⟨rfl, rfl⟩ := q
      have hL : stars [ansP m F w bg ((tqR (rwM (dS s 1) k) i) ++ w2 ((rwM (dS s 1) k).getD i 0)), rdv d s, iar a qn q] h := hL
      refine e_iinc 811 (v := (nI (i + 1))) (ls' := [some (.ref m), some (.ref d), some (.ref a), some (.int (nI q.length)), none, some (.int (nI k)), some (.int (nI (i + 1)))]) dX15_serve_808 rfl rfl (nI_add i 1) (by decide) rfl ?_
      refine e_goto 782 dX15_serve_811 rfl ?_
      rw [tqR_succ (by omega)] at hL
      have hL : stars [ansP m F w bg (tqR (rwM (dS s 1) k) (i + 1)), rdv d s, iar a qn q] h := hL
      refine e_wk [some (.ref m), some (.ref d), some (.ref a), some (.int (nI q.length)), none, some (.int (nI k)), some (.int (nI (i + 1)))] ⟨rfl, rfl, rfl, rfl, rfl, rfl, trivial⟩ ?_
      exact ih (i + 1) h (by omega) (by omega) hL
