/-! the reference: looks -/
def ryD (s : DS) (p : List Nat) : DS := (upN s.1 17 (s.1 2), s.2.1, s.2.2.1, s.2.2.2.1, upL s.2.2.2.2.1 7 p, s.2.2.2.2.2)
theorem upL_cm {f : Nat → List Nat} {i j : Nat} {a b : List Nat} (h : i ≠ j) : upL (upL f i a) j b = upL (upL f j b) i a := by
  funext k
  unfold upL
  by_cases h1 : k = i
  · by_cases h2 : k = j
    · exact absurd (h1.symm.trans h2) h
    · simp only [if_pos h1, if_neg h2]
  · simp only [if_neg h1]
theorem kr_e {s : DS} {code : Nat} : krD s [] code = ctD s 4 := by
  unfold krD ctD krV krC krL krR
  simp only [if_true]
  rw [show upL (upL s.2.2.2.2.1 5 (s.2.2.2.2.1 5)) 7 (s.2.2.2.2.1 7) = s.2.2.2.2.1 by rw [upL_self]; exact upL_self]
theorem kr_0 {s : DS} {p : List Nat} (hp : p ≠ []) : krD s p 0 = evD (ryD s p) 64 := by
  unfold krD evD ryD krV krC krL krR
  simp only [if_neg hp, if_true]
  rw [upL_cm (i := 7) (j := 5) (by decide)]
  rfl
theorem kr_6 {s : DS} {p : List Nat} (hp : p ≠ []) : krD s p 6 = evD (ctD (ryD s p) 2) 68 := by
  unfold krD evD ctD ryD krV krC krL krR
  simp only [if_neg hp]
  rw [upL_cm (i := 7) (j := 5) (by decide)]
  rfl
theorem kr_n {s : DS} {p : List Nat} {code : Nat} (hp : p ≠ []) (h0 : code ≠ 0) (h6 : code ≠ 6) : krD s p code = evD (ctD (ryD s p) 2) 65 := by
  unfold krD evD ctD ryD krV krC krL krR
  simp only [if_neg hp, if_neg h0, if_neg h6]
  rw [upL_cm (i := 7) (j := 5) (by decide)]
  rfl
def lkD (s : DS) : DS := if cfB (s.1 1) (dL s 6) (dB s 1) then tmD (cfD s) else cfD s
theorem cf_bad {s : DS} (hg : goodF (dL s 6) (dB s 1) = false) : lkD s = evD (if dB s 2 then ctD (ctD s 1) 7 else ctD s 1) (130 + (cfM (dB s 0) + if dB s 2 then 16 else 0)) := by
  unfold lkD
  rw [cfB, hg, Bool.false_and, if_neg (by decide)]
  have hg9 : goodF (s.2.2.2.2.1 6) (s.2.2.2.2.2.2 1) = false := hg
  unfold cfD cfC cfL
  simp only [hg9, Bool.false_eq_true, if_false]
  cases hb : s.2.2.2.2.2.2 2
  · simp only [dB, hb, Bool.false_eq_true, if_false]; rfl
  · simp only [dB, hb, if_true]; rfl
theorem cf_no {s : DS} (hg : goodF (dL s 6) (dB s 1) = true) (ha : (dL s 6).getD 0 0 ≠ s.1 1) (h0 : (dL s 6).getD 0 0 ≠ 0) : lkD s = ctD s 0 := by
  unfold lkD
  rw [cfB, hg, decide_eq_true ha, decide_eq_true h0]
  rw [if_neg (by decide)]
  unfold cfD cfC cfL
  rw [if_pos (show goodF (s.2.2.2.2.1 6) (s.2.2.2.2.2.2 1) = true from hg), if_pos (show (s.2.2.2.2.1 6).getD 0 0 ≠ s.1 1 ∧ (s.2.2.2.2.1 6).getD 0 0 ≠ 0 from ⟨ha, h0⟩), if_pos (show goodF (s.2.2.2.2.1 6) (s.2.2.2.2.2.2 1) = true from hg), if_pos (show (s.2.2.2.2.1 6).getD 0 0 ≠ s.1 1 ∧ (s.2.2.2.2.1 6).getD 0 0 ≠ 0 from ⟨ha, h0⟩), upL_self]
  rfl
theorem cf_yes {s : DS} (hg : goodF (dL s 6) (dB s 1) = true) (h : (dL s 6).getD 0 0 = s.1 1 ∨ (dL s 6).getD 0 0 = 0) : lkD s = tmD (cfD s) ∧ cfD s = evD (ctD (ctD s 0) 3) (128 + cfM (dB s 0) + if (dL s 6).getD 0 0 = 0 then 64 else 0) := by
  have hn : ¬ ((s.2.2.2.2.1 6).getD 0 0 ≠ s.1 1 ∧ (s.2.2.2.2.1 6).getD 0 0 ≠ 0) := fun z => h.elim z.1 z.2
  refine ⟨?_, ?_⟩
  · unfold lkD
    rw [cfB, hg, if_pos]
    rw [Bool.true_and, ← Bool.decide_and, decide_eq_false hn]
    rfl
  · unfold cfD cfC cfL
    rw [if_pos (show goodF (s.2.2.2.2.1 6) (s.2.2.2.2.2.2 1) = true from hg), if_neg hn, if_pos (show goodF (s.2.2.2.2.1 6) (s.2.2.2.2.2.2 1) = true from hg), if_neg hn]
    rfl
set_option maxRecDepth 20000 in
set_option maxHeartbeats 2000000 in
theorem g_looks343 {m d f code : Nat} {F w : Nat → Nat} {bg : Bool} {s : DS} {p pd : List Nat} (he : okE s) (hok : okD s) (hp : ∀ x ∈ p, x < 256) (hpl : p.length ≤ 253) (hp1 : 1 ≤ p.length) (hf : f < 256) (hc : (code = 0 ∧ p.getD 0 0 ≠ (f + 128) % 2 ^ 8) ∨ (code ≠ 0 ∧ p = [(f + 128) % 2 ^ 8, code])) {h : eH} (hL : stars [ansP m F w bg p, rdv d s, iar (F 5) 260 pd] h) : EE mX15_looks 5 130 0 0 (fun x9 h' => ∃ K, (x9 = none ∧ ∃ r9 p9, K = [ansP m F w bg r9, rdv d (krD s p code), iar (F 5) 260 p9]) ∧ stars K h') 343 [some (.ref m), some (.ref d), none, none, some (.int (nI f)), none, none] [] h 0 0 := by
  refine e_iconst 344 (v := (nI 0)) dX15_looks_343 rfl (by decide) ?_
  refine e_istore 346 (ls' := [some (.ref m), some (.ref d), none, none, some (.int (nI f)), none, some (.int (nI 0))]) dX15_looks_344 rfl (by decide) rfl ?_
  have hL : stars [rdv d s, ansP m F w bg p, iar (F 5) 260 pd] h := stars_ixn hL 3 rfl [1, 0, 2] (by decide) rfl
  obtain ⟨A, hL⟩ := rdv_oy hL
  have hL : stars [pt d (.inr (10, rdF A s)), iar (A 37) 260 (dL s 7), rRy A s, ansP m F w bg p, iar (F 5) 260 pd] h := hL
  have hL : stars [pt d (.inr (10, rdF A s)), iar (A 37) 260 ([]), rRy A s, ansP m F w bg p, iar (F 5) 260 pd] h := iar_em 1 hL rfl rfl
  refine e_wk [some (.ref m), some (.ref d), none, none, some (.int (nI f)), none, some (.int (nI 0))] ⟨rfl, rfl, rfl, rfl, trivial⟩ ?_
  refine l_looks2 hp hpl (fun h hL => ?_) _ 0 h (Nat.lt_succ_self _) (Nat.zero_le _) (by rw [List.take_zero]; exact hL)
  refine e_aload_n 376 dX15_looks_375 rfl rfl ?_
  refine e_aload_n 377 dX15_looks_376 rfl rfl ?_
  refine e_get 380 dX15_looks_377 rfl fl_X15_89_13 (ans_V _ 3 hL rfl) rfl ?_
  refine p_put 383 hL 0 (fs' := (rdF A s).set 35 (.int (nI p.length))) (L' := [pt d (.inr (10, (rdF A s).set 35 (.int (nI p.length)))), iar (A 37) 260 p, rRy A s, ansP m F w bg p, iar (F 5) 260 pd]) rfl rfl dX15_looks_380 rfl fp_X15_260_10 (Or.inl rfl) (Nat.le_of_ble_eq_true rfl) rfl rfl rfl (fun h hL => ?_)
  refine e_aload_n 384 dX15_looks_383 rfl rfl ?_
  refine e_aload_n 385 dX15_looks_384 rfl rfl ?_
  refine e_get 388 dX15_looks_385 rfl fl_X15_263_10 (stars_at _ 0 hL rfl) rfl ?_
  refine p_put 391 hL 0 (fs' := ((rdF A s).set 35 (.int (nI p.length))).set 36 (.int (nI (s.1 2)))) (L' := [pt d (.inr (10, ((rdF A s).set 35 (.int (nI p.length))).set 36 (.int (nI (s.1 2))))), iar (A 37) 260 p, rRy A s, ansP m F w bg p, iar (F 5) 260 pd]) rfl rfl dX15_looks_388 rfl fp_X15_266_10 (Or.inl rfl) (Nat.le_of_ble_eq_true rfl) rfl rfl rfl (fun h hL => ?_)
  have hL : stars [rdv d (ryD s p), ansP m F w bg p, iar (F 5) 260 pd] h := rdv_cy (s := s) (A := A) (fs' := ((rdF A s).set 35 (.int (nI p.length))).set 36 (.int (nI (s.1 2)))) (r := p) (x := s.1 2) rfl hL
  have hL : stars [ansP m F w bg p, rdv d (ryD s p), iar (F 5) 260 pd] h := stars_ixn hL 3 rfl [1, 0, 2] (by decide) rfl
  refine e_aload_n 392 dX15_looks_391 rfl rfl ?_
  refine e_get 395 dX15_looks_392 rfl fl_X15_89_13 (ans_V _ 0 hL rfl) rfl ?_
  refine e_iconst 396 (v := (nI 2)) dX15_looks_395 rfl (by decide) ?_
  refine e_icmp_ne 415 399 dX15_looks_396 rfl rfl (fun c396 => ?_) (fun c396 => ?_)
  · have k396 := j_ne_t (a := p.length) (b := 2) (by omega) (by omega) c396
    refine e_iconst 416 (v := (nI 0)) dX15_looks_415 rfl (by decide) ?_
    refine e_istore 418 (ls' := [some (.ref m), some (.ref d), none, none, some (.int (nI f)), none, some (.int (nI 0))]) dX15_looks_416 rfl (by decide) rfl ?_
    refine e_iload 420 dX15_looks_418 rfl rfl ?_
    refine e_if_eq 428 423 dX15_looks_420 rfl rfl (fun c420 => ?_) (fun c420 => absurd c420 (by decide))
    refine e_aload_n 429 dX15_looks_428 rfl rfl ?_
    refine e_iload 431 dX15_looks_429 rfl rfl ?_
    refine e_if_ne 439 434 dX15_looks_431 rfl rfl (fun c431 => absurd c431 (by decide)) (fun c431 => ?_)
    refine e_bipush 436 (v := (nI 64)) dX15_looks_434 rfl (by decide) ?_
    refine e_goto 457 dX15_looks_436 rfl ?_
    refine p_callV 460 hL [1, 0, 2] 3 rfl (by decide) (L1 := [rdv d (ryD s p)]) (L2 := [ansP m F w bg p, iar (F 5) 260 pd]) rfl rdv_O 1 rfl dX15_looks_457 rfl cv_X15_215 (k_X12_tells (s := (ryD s p)) (e := 64) (by exact (okE_ln he).2.1)) rfl rfl (Nat.le_of_ble_eq_true rfl) ⟨by decide, by omega, by omega⟩ (fun r1 L1 h q hL => ?_)
    obtain ⟨rfl, rfl⟩ := q
    have hL : stars [rdv d (evD (ryD s p) 64), ansP m F w bg p, iar (F 5) 260 pd] h := hL
    have hL : stars [ansP m F w bg p, rdv d (evD (ryD s p) 64), iar (F 5) 260 pd] h := stars_ixn hL 3 rfl [1, 0, 2] (by decide) rfl
    exact e_vret dX15_looks_460 rfl (by omega) (by omega) (⟨_, ⟨rfl, _, _, rfl⟩, by (have c0 : code = 0 := (hc.resolve_right (fun z => absurd (congrArg List.length z.2) (by simp only [List.length_cons, List.length_nil]; omega))).1); (have hp9 : p ≠ [] := fun z => by rw [z] at hp1; cases hp1); rw [c0, kr_0 hp9]; exact hL⟩)
  · have k396 := j_ne_f (a := p.length) (b := 2) (by omega) (by omega) c396
    refine e_aload_n 400 dX15_looks_399 rfl rfl ?_
    refine e_get 403 dX15_looks_400 rfl fl_X15_15_13 (ans_V _ 0 hL rfl) rfl ?_
    refine e_iload 405 dX15_looks_403 rfl rfl ?_
    refine u_callS 408 dX15_looks_405 rfl cs_X15_269 (u_X15_isRefusal (ans_A _ 0 hL rfl) (by decide) hp hp1 (by omega)) rfl rfl (Nat.le_of_ble_eq_true rfl) (by decide) ⟨by omega, by omega⟩ ?_
    refine e_if_eq 415 411 dX15_looks_408 rfl rfl (fun c408 => ?_) (fun c408 => ?_)
    · have k408 := jb_eq_t c408
      have h408 := of_decide_eq_false k408
      refine e_iconst 416 (v := (nI 0)) dX15_looks_415 rfl (by decide) ?_
      refine e_istore 418 (ls' := [some (.ref m), some (.ref d), none, none, some (.int (nI f)), none, some (.int (nI 0))]) dX15_looks_416 rfl (by decide) rfl ?_
      refine e_iload 420 dX15_looks_418 rfl rfl ?_
      refine e_if_eq 428 423 dX15_looks_420 rfl rfl (fun c420 => ?_) (fun c420 => absurd c420 (by decide))
      refine e_aload_n 429 dX15_looks_428 rfl rfl ?_
      refine e_iload 431 dX15_looks_429 rfl rfl ?_
      refine e_if_ne 439 434 dX15_looks_431 rfl rfl (fun c431 => absurd c431 (by decide)) (fun c431 => ?_)
      refine e_bipush 436 (v := (nI 64)) dX15_looks_434 rfl (by decide) ?_
      refine e_goto 457 dX15_looks_436 rfl ?_
      refine p_callV 460 hL [1, 0, 2] 3 rfl (by decide) (L1 := [rdv d (ryD s p)]) (L2 := [ansP m F w bg p, iar (F 5) 260 pd]) rfl rdv_O 1 rfl dX15_looks_457 rfl cv_X15_215 (k_X12_tells (s := (ryD s p)) (e := 64) (by exact (okE_ln he).2.1)) rfl rfl (Nat.le_of_ble_eq_true rfl) ⟨by decide, by omega, by omega⟩ (fun r1 L1 h q hL => ?_)
      obtain ⟨rfl, rfl⟩ := q
      have hL : stars [rdv d (evD (ryD s p) 64), ansP m F w bg p, iar (F 5) 260 pd] h := hL
      have hL : stars [ansP m F w bg p, rdv d (evD (ryD s p) 64), iar (F 5) 260 pd] h := stars_ixn hL 3 rfl [1, 0, 2] (by decide) rfl
      exact e_vret dX15_looks_460 rfl (by omega) (by omega) (⟨_, ⟨rfl, _, _, rfl⟩, by (have c0 : code = 0 := (hc.resolve_right (fun z => h408 (by rw [z.2]; rfl))).1); (have hp9 : p ≠ [] := fun z => by rw [z] at hp1; cases hp1); rw [c0, kr_0 hp9]; exact hL⟩)
    · have k408 := jb_eq_f c408
      have h408 := of_decide_eq_true k408
      refine e_iconst 412 (v := (nI 1)) dX15_looks_411 rfl (by decide) ?_
      refine e_goto 416 dX15_looks_412 rfl ?_
      refine e_istore 418 (ls' := [some (.ref m), some (.ref d), none, none, some (.int (nI f)), none, some (.int (nI 1))]) dX15_looks_416 rfl (by decide) rfl ?_
      refine e_iload 420 dX15_looks_418 rfl rfl ?_
      refine e_if_eq 428 423 dX15_looks_420 rfl rfl (fun c420 => absurd c420 (by decide)) (fun c420 => ?_)
      refine e_aload_n 424 dX15_looks_423 rfl rfl ?_
      refine e_iconst 425 (v := (nI 2)) dX15_looks_424 rfl (by decide) ?_
      refine p_callV 428 hL [1, 0, 2] 3 rfl (by decide) (L1 := [rdv d (ryD s p)]) (L2 := [ansP m F w bg p, iar (F 5) 260 pd]) rfl rdv_O 1 rfl dX15_looks_425 rfl cv_X15_150 (k_X12_counts (s := (ryD s p)) (k := 2) (by decide) (okD_C hok 2)) rfl rfl (Nat.le_of_ble_eq_true rfl) ⟨by decide, by omega, by omega⟩ (fun r1 L1 h q hL => ?_)
      obtain ⟨rfl, rfl⟩ := q
      have hL : stars [rdv d (ctD (ryD s p) 2), ansP m F w bg p, iar (F 5) 260 pd] h := hL
      have hL : stars [ansP m F w bg p, rdv d (ctD (ryD s p) 2), iar (F 5) 260 pd] h := stars_ixn hL 3 rfl [1, 0, 2] (by decide) rfl
      refine e_aload_n 429 dX15_looks_428 rfl rfl ?_
      refine e_iload 431 dX15_looks_429 rfl rfl ?_
      refine e_if_ne 439 434 dX15_looks_431 rfl rfl (fun c431 => ?_) (fun c431 => absurd c431 (by decide))
      refine e_aload_n 440 dX15_looks_439 rfl rfl ?_
      refine e_get 443 dX15_looks_440 rfl fl_X15_15_13 (ans_V _ 0 hL rfl) rfl ?_
      refine e_iconst 444 (v := (nI 1)) dX15_looks_443 rfl (by decide) ?_
      have b444 := gd_lt (i := 1) hp (by decide)
      refine v_iald 445 (ans_A _ 0 hL rfl) (k := 1) (x := (p.getD 1 0)) dX15_looks_444 rfl (by omega) (by omega) rfl ?_
      refine e_bipush 447 (v := (nI 6)) dX15_looks_445 rfl (by decide) ?_
      refine e_icmp_ne 455 450 dX15_looks_447 rfl rfl (fun c447 => ?_) (fun c447 => ?_)
      · have k447 := j_ne_t (a := (p.getD 1 0)) (b := 6) (by omega) (by omega) c447
        refine e_bipush 457 (v := (nI 65)) dX15_looks_455 rfl (by decide) ?_
        refine p_callV 460 hL [1, 0, 2] 3 rfl (by decide) (L1 := [rdv d (ctD (ryD s p) 2)]) (L2 := [ansP m F w bg p, iar (F 5) 260 pd]) rfl rdv_O 1 rfl dX15_looks_457 rfl cv_X15_215 (k_X12_tells (s := (ctD (ryD s p) 2)) (e := 65) (by exact (okE_ln he).2.1)) rfl rfl (Nat.le_of_ble_eq_true rfl) ⟨by decide, by omega, by omega⟩ (fun r1 L1 h q hL => ?_)
        obtain ⟨rfl, rfl⟩ := q
        have hL : stars [rdv d (evD (ctD (ryD s p) 2) 65), ansP m F w bg p, iar (F 5) 260 pd] h := hL
        have hL : stars [ansP m F w bg p, rdv d (evD (ctD (ryD s p) 2) 65), iar (F 5) 260 pd] h := stars_ixn hL 3 rfl [1, 0, 2] (by decide) rfl
        exact e_vret dX15_looks_460 rfl (by omega) (by omega) (⟨_, ⟨rfl, _, _, rfl⟩, by (obtain ⟨c0, pe⟩ := hc.resolve_left (fun z => z.2 h408)); (have hp9 : p ≠ [] := by rw [pe]; exact List.cons_ne_nil _ _); (have c1 : p.getD 1 0 = code := by rw [pe]; rfl); rw [kr_n hp9 c0 (by omega)]; exact hL⟩)
      · have k447 := j_ne_f (a := (p.getD 1 0)) (b := 6) (by omega) (by omega) c447
        refine e_bipush 452 (v := (nI 68)) dX15_looks_450 rfl (by decide) ?_
        refine e_goto 457 dX15_looks_452 rfl ?_
        refine p_callV 460 hL [1, 0, 2] 3 rfl (by decide) (L1 := [rdv d (ctD (ryD s p) 2)]) (L2 := [ansP m F w bg p, iar (F 5) 260 pd]) rfl rdv_O 1 rfl dX15_looks_457 rfl cv_X15_215 (k_X12_tells (s := (ctD (ryD s p) 2)) (e := 68) (by exact (okE_ln he).2.1)) rfl rfl (Nat.le_of_ble_eq_true rfl) ⟨by decide, by omega, by omega⟩ (fun r1 L1 h q hL => ?_)
        obtain ⟨rfl, rfl⟩ := q
        have hL : stars [rdv d (evD (ctD (ryD s p) 2) 68), ansP m F w bg p, iar (F 5) 260 pd] h := hL
        have hL : stars [ansP m F w bg p, rdv d (evD (ctD (ryD s p) 2) 68), iar (F 5) 260 pd] h := stars_ixn hL 3 rfl [1, 0, 2] (by decide) rfl
        exact e_vret dX15_looks_460 rfl (by omega) (by omega) (⟨_, ⟨rfl, _, _, rfl⟩, by (obtain ⟨c0, pe⟩ := hc.resolve_left (fun z => z.2 h408)); (have hp9 : p ≠ [] := by rw [pe]; exact List.cons_ne_nil _ _); (have c1 : p.getD 1 0 = code := by rw [pe]; rfl); rw [show code = 6 by omega, kr_6 hp9]; exact hL⟩)
theorem r8F_le {q : List Nat} : r8F q ≤ 3 := by
  unfold r8F dgF sdF
  (repeat' split) <;> omega
theorem rs_3 {q : List Nat} (h5 : q.length = 5) (h0 : q.getD 0 0 = 8) (h1 : wd q 1 = 1) (h : r8F q = 0) : wd q 3 = 0 ∨ wd q 3 = 65280 := by
  unfold r8F dgF sdF at h
  revert h
  (repeat' split) <;> intro h <;> omega
theorem rs_8 {q : List Nat} (h : q.length = 5 ∧ q.getD 0 0 = 8 ∧ wd q 1 = 1 ∧ (wd q 3 = 0 ∨ wd q 3 = 65280)) : r8F q = 0 := by
  unfold r8F dgF sdF
  (repeat' split) <;> omega
set_option maxRecDepth 20000 in
set_option maxHeartbeats 2000000 in
theorem g_looks161 {m d : Nat} {F w : Nat → Nat} {bg : Bool} {s : DS} (he : okE s) (hok : okD s) {r : List Nat} (h4 : 4 ≤ (dL s 6).length) {h : eH} (hL : stars [ansP m F w bg r, rdv d s, iar (F 5) 260 (eaP s)] h) : EE mX15_looks 5 130 0 0 (fun x9 h' => ∃ K, (x9 = none ∧ ∃ r9 p9, K = [ansP m F w bg r9, rdv d (tmD s), iar (F 5) 260 p9]) ∧ stars K h') 161 [some (.ref m), some (.ref d), some (.int (nI ((dL s 6).getD 0 0))), some (.int (nI (eaP s).length)), none, none, none] [] h 0 0 := by
  have hea := eaP_ok hok he
  have hq := hea.1
  have hl9 := hea.2
  have hao := svA_ok (s := s) (q := eaP s) hok he hq hl9
  have hel : (eaP s).length = (dL s 6).length - 3 := pf_len
  have h1 : 1 ≤ (eaP s).length := by omega
  have h6l := (okE_ln he).2.2.1
  have b0 := gd_lt (i := 0) (okD_6 hok) (by decide)
  have hb18 : s.1 18 < 100 := hok.2.2.2.2.2.2.1
  refine e_aload_n 162 dX15_looks_161 rfl rfl ?_
  refine e_get 165 dX15_looks_162 rfl fl_X15_19_13 (ans_V _ 0 hL rfl) rfl ?_
  refine e_iconst 166 (v := (nI 0)) dX15_looks_165 rfl (by decide) ?_
  have b166 := gd_lt (i := 0) hq (by decide)
  refine v_iald 167 (iar_V _ 2 hL rfl) (k := 0) (x := ((eaP s).getD 0 0)) dX15_looks_166 rfl (by omega) (by omega) rfl ?_
  refine e_istore 169 (ls' := [some (.ref m), some (.ref d), some (.int (nI ((dL s 6).getD 0 0))), some (.int (nI (eaP s).length)), some (.int (nI ((eaP s).getD 0 0))), none, none]) dX15_looks_167 rfl (by decide) rfl ?_
  refine e_iconst 170 (v := (nI 0)) dX15_looks_169 rfl (by decide) ?_
  refine e_istore 172 (ls' := [some (.ref m), some (.ref d), some (.int (nI ((dL s 6).getD 0 0))), some (.int (nI (eaP s).length)), some (.int (nI ((eaP s).getD 0 0))), some (.int (nI 0)), none]) dX15_looks_170 rfl (by decide) rfl ?_
  refine e_aload_n 173 dX15_looks_172 rfl rfl ?_
  obtain ⟨A173, v173_0, v173_1, v173_2, v173_3, v173_4, v173_5, v173_6, v173_7, v173_8, v173_9, v173_10, v173_11, v173_12, v173_13, v173_14, v173_15, v173_16, v173_17, v173_18, v173_19, v173_20, v173_21⟩ := rdv_V _ 1 hL rfl
  refine e_get 176 dX15_looks_173 rfl fl_X15_211_10 v173_0 rfl ?_
  refine e_if_eq 250 179 dX15_looks_176 rfl rfl (fun c176 => ?_) (fun c176 => ?_)
  · have k176 := jb_eq_t c176
    refine e_iload_n 251 dX15_looks_250 rfl rfl ?_
    refine e_if_ne 308 254 dX15_looks_251 rfl rfl (fun c251 => ?_) (fun c251 => ?_)
    · have k251 := j_ne0_t (a := ((dL s 6).getD 0 0)) (by omega) c251
      refine e_aload_n 309 dX15_looks_308 rfl rfl ?_
      refine e_aload_n 310 dX15_looks_309 rfl rfl ?_
      refine e_aload_n 311 dX15_looks_310 rfl rfl ?_
      refine e_get 314 dX15_looks_311 rfl fl_X15_19_13 (ans_V _ 0 hL rfl) rfl ?_
      refine e_iload_n 315 dX15_looks_314 rfl rfl ?_
      refine p_callV 318 hL [0, 1, 2] 3 rfl (by decide) (L1 := [ansP m F w bg r, rdv d s, iar (F 5) 260 (eaP s)]) (L2 := []) rfl ans_O 0 rfl dX15_looks_315 rfl cv_X15_254 (k_X15_serve he hok (by decide) hq h1 hl9) rfl rfl (Nat.le_of_ble_eq_true rfl) ⟨by decide, by omega, by omega⟩ (fun r1 L1 h q hL => ?_)
      obtain ⟨rfl, rfl⟩ := q
      have hL : stars [ansP m F w bg (svA s (eaP s)), rdv d (svS s (eaP s)), iar (F 5) 260 (eaP s)] h := hL
      refine e_aload_n 319 dX15_looks_318 rfl rfl ?_
      refine e_get 322 dX15_looks_319 rfl fl_X15_89_13 (ans_V _ 0 hL rfl) rfl ?_
      refine e_if_le 329 325 dX15_looks_322 rfl rfl (fun c322 => ?_) (fun c322 => ?_)
      · have k322 := j_le0_t (a := (svA s (eaP s)).length) (by omega) c322
        refine e_iconst 330 (v := (nI 0)) dX15_looks_329 rfl (by decide) ?_
        refine e_istore 332 (ls' := [some (.ref m), some (.ref d), some (.int (nI ((dL s 6).getD 0 0))), some (.int (nI (eaP s).length)), some (.int (nI ((eaP s).getD 0 0))), some (.int (nI 0)), none]) dX15_looks_330 rfl (by decide) rfl ?_
        have ok9 := okD_sv (q := eaP s) hok hq
        have he9 := okE_sv (q := eaP s) he
        refine e_iload 334 dX15_looks_332 rfl rfl ?_
        refine e_if_ne 343 337 dX15_looks_334 rfl rfl (fun c334 => absurd c334 (by decide)) (fun c334 => ?_)
        refine e_aload_n 338 dX15_looks_337 rfl rfl ?_
        refine e_iconst 339 (v := (nI 4)) dX15_looks_338 rfl (by decide) ?_
        refine p_callV 342 hL [1, 0, 2] 3 rfl (by decide) (L1 := [rdv d (svS s (eaP s))]) (L2 := [ansP m F w bg (svA s (eaP s)), iar (F 5) 260 (eaP s)]) rfl rdv_O 1 rfl dX15_looks_339 rfl cv_X15_150 (k_X12_counts (s := (svS s (eaP s))) (k := 4) (by decide) (okD_C ok9 4)) rfl rfl (Nat.le_of_ble_eq_true rfl) ⟨by decide, by omega, by omega⟩ (fun r1 L1 h q hL => ?_)
        obtain ⟨rfl, rfl⟩ := q
        have hL : stars [rdv d (ctD (svS s (eaP s)) 4), ansP m F w bg (svA s (eaP s)), iar (F 5) 260 (eaP s)] h := hL
        have hL : stars [ansP m F w bg (svA s (eaP s)), rdv d (ctD (svS s (eaP s)) 4), iar (F 5) 260 (eaP s)] h := stars_ixn hL 3 rfl [1, 0, 2] (by decide) rfl
        exact e_vret dX15_looks_342 rfl (by omega) (by omega) (⟨_, ⟨rfl, _, _, rfl⟩, by unfold tmD; rw [show tmV s = true by (unfold tmV; rw [show s.2.2.2.2.2.2 0 = false from k176, if_neg (by decide), if_neg (show ¬ (s.2.2.2.2.1 6).getD 0 0 = 0 by omega)]), show tmR s = true by (unfold tmR; rw [show s.2.2.2.2.2.2 0 = false from k176, decide_eq_false (show ¬ (s.2.2.2.2.1 6).getD 0 0 = 0 by omega)]; rfl), if_pos rfl, if_pos rfl, if_pos rfl, (show svA s (eaP s) = [] from List.eq_nil_of_length_eq_zero (by omega)), kr_e]; exact hL⟩)
      · have k322 := j_le0_f (a := (svA s (eaP s)).length) (by omega) c322
        refine e_iconst 326 (v := (nI 1)) dX15_looks_325 rfl (by decide) ?_
        refine e_goto 330 dX15_looks_326 rfl ?_
        refine e_istore 332 (ls' := [some (.ref m), some (.ref d), some (.int (nI ((dL s 6).getD 0 0))), some (.int (nI (eaP s).length)), some (.int (nI ((eaP s).getD 0 0))), some (.int (nI 1)), none]) dX15_looks_330 rfl (by decide) rfl ?_
        have ok9 := okD_sv (q := eaP s) hok hq
        have he9 := okE_sv (q := eaP s) he
        refine e_iload 334 dX15_looks_332 rfl rfl ?_
        refine e_if_ne 343 337 dX15_looks_334 rfl rfl (fun c334 => ?_) (fun c334 => absurd c334 (by decide))
        refine e_wk [some (.ref m), some (.ref d), none, none, some (.int (nI ((eaP s).getD 0 0))), none, none] ⟨rfl, rfl, rfl, trivial⟩ ?_
        rw [show tmD s = krD (svS s (eaP s)) (svA s (eaP s)) (svC s (eaP s)) by (unfold tmD; rw [show tmV s = true by (unfold tmV; rw [show s.2.2.2.2.2.2 0 = false from k176, if_neg (by decide), if_neg (by omega)]), show tmR s = true by (unfold tmR; rw [show s.2.2.2.2.2.2 0 = false from k176, decide_eq_false (by omega)]; rfl)]; rfl)]
        exact g_looks343 he9 ok9 hao.1 hao.2 (by omega) (gd_lt hq (by decide)) ((svA_c h1 (gd_lt hq (by decide))).imp (fun z => ⟨z.1, z.2.resolve_left (fun y => by rw [y] at k322; exact absurd k322 (by decide))⟩) id) hL
    · have k251 := j_ne0_f (a := ((dL s 6).getD 0 0)) (by omega) c251
      refine e_iload 256 dX15_looks_254 rfl rfl ?_
      refine e_iconst 257 (v := (nI 5)) dX15_looks_256 rfl (by decide) ?_
      refine e_icmp_eq 295 260 dX15_looks_257 rfl rfl (fun c257 => ?_) (fun c257 => ?_)
      · have k257 := j_eq_t (a := ((eaP s).getD 0 0)) (b := 5) (by omega) (by omega) c257
        refine e_aload_n 296 dX15_looks_295 rfl rfl ?_
        refine e_aload_n 297 dX15_looks_296 rfl rfl ?_
        refine e_aload_n 298 dX15_looks_297 rfl rfl ?_
        refine e_get 301 dX15_looks_298 rfl fl_X15_19_13 (ans_V _ 0 hL rfl) rfl ?_
        refine e_iload_n 302 dX15_looks_301 rfl rfl ?_
        refine p_callV 305 hL [0, 1, 2] 3 rfl (by decide) (L1 := [ansP m F w bg r, rdv d s, iar (F 5) 260 (eaP s)]) (L2 := []) rfl ans_O 0 rfl dX15_looks_302 rfl cv_X15_254 (k_X15_serve he hok (by decide) hq h1 hl9) rfl rfl (Nat.le_of_ble_eq_true rfl) ⟨by decide, by omega, by omega⟩ (fun r1 L1 h q hL => ?_)
        obtain ⟨rfl, rfl⟩ := q
        have hL : stars [ansP m F w bg (svA s (eaP s)), rdv d (svS s (eaP s)), iar (F 5) 260 (eaP s)] h := hL
        refine e_goto 332 dX15_looks_305 rfl ?_
        have ok9 := okD_sv (q := eaP s) hok hq
        have he9 := okE_sv (q := eaP s) he
        refine e_iload 334 dX15_looks_332 rfl rfl ?_
        refine e_if_ne 343 337 dX15_looks_334 rfl rfl (fun c334 => absurd c334 (by decide)) (fun c334 => ?_)
        refine e_aload_n 338 dX15_looks_337 rfl rfl ?_
        refine e_iconst 339 (v := (nI 4)) dX15_looks_338 rfl (by decide) ?_
        refine p_callV 342 hL [1, 0, 2] 3 rfl (by decide) (L1 := [rdv d (svS s (eaP s))]) (L2 := [ansP m F w bg (svA s (eaP s)), iar (F 5) 260 (eaP s)]) rfl rdv_O 1 rfl dX15_looks_339 rfl cv_X15_150 (k_X12_counts (s := (svS s (eaP s))) (k := 4) (by decide) (okD_C ok9 4)) rfl rfl (Nat.le_of_ble_eq_true rfl) ⟨by decide, by omega, by omega⟩ (fun r1 L1 h q hL => ?_)
        obtain ⟨rfl, rfl⟩ := q
        have hL : stars [rdv d (ctD (svS s (eaP s)) 4), ansP m F w bg (svA s (eaP s)), iar (F 5) 260 (eaP s)] h := hL
        have hL : stars [ansP m F w bg (svA s (eaP s)), rdv d (ctD (svS s (eaP s)) 4), iar (F 5) 260 (eaP s)] h := stars_ixn hL 3 rfl [1, 0, 2] (by decide) rfl
        exact e_vret dX15_looks_342 rfl (by omega) (by omega) (⟨_, ⟨rfl, _, _, rfl⟩, by unfold tmD; rw [show tmV s = true by (unfold tmV; rw [show s.2.2.2.2.2.2 0 = false from k176, if_neg (by decide), if_pos (show (s.2.2.2.2.1 6).getD 0 0 = 0 by omega), faF]; exact decide_eq_true (by omega)), show tmR s = false by (unfold tmR; rw [show s.2.2.2.2.2.2 0 = false from k176, decide_eq_true (show (s.2.2.2.2.1 6).getD 0 0 = 0 by omega)]; rfl), if_pos rfl, if_neg (by decide), if_neg (by decide), kr_e]; exact hL⟩)
      · have k257 := j_eq_f (a := ((eaP s).getD 0 0)) (b := 5) (by omega) (by omega) c257
        refine e_iload 262 dX15_looks_260 rfl rfl ?_
        refine e_bipush 264 (v := (nI 6)) dX15_looks_262 rfl (by decide) ?_
        refine e_icmp_eq 295 267 dX15_looks_264 rfl rfl (fun c264 => ?_) (fun c264 => ?_)
        · have k264 := j_eq_t (a := ((eaP s).getD 0 0)) (b := 6) (by omega) (by omega) c264
          refine e_aload_n 296 dX15_looks_295 rfl rfl ?_
          refine e_aload_n 297 dX15_looks_296 rfl rfl ?_
          refine e_aload_n 298 dX15_looks_297 rfl rfl ?_
          refine e_get 301 dX15_looks_298 rfl fl_X15_19_13 (ans_V _ 0 hL rfl) rfl ?_
          refine e_iload_n 302 dX15_looks_301 rfl rfl ?_
          refine p_callV 305 hL [0, 1, 2] 3 rfl (by decide) (L1 := [ansP m F w bg r, rdv d s, iar (F 5) 260 (eaP s)]) (L2 := []) rfl ans_O 0 rfl dX15_looks_302 rfl cv_X15_254 (k_X15_serve he hok (by decide) hq h1 hl9) rfl rfl (Nat.le_of_ble_eq_true rfl) ⟨by decide, by omega, by omega⟩ (fun r1 L1 h q hL => ?_)
          obtain ⟨rfl, rfl⟩ := q
          have hL : stars [ansP m F w bg (svA s (eaP s)), rdv d (svS s (eaP s)), iar (F 5) 260 (eaP s)] h := hL
          refine e_goto 332 dX15_looks_305 rfl ?_
          have ok9 := okD_sv (q := eaP s) hok hq
          have he9 := okE_sv (q := eaP s) he
          refine e_iload 334 dX15_looks_332 rfl rfl ?_
          refine e_if_ne 343 337 dX15_looks_334 rfl rfl (fun c334 => absurd c334 (by decide)) (fun c334 => ?_)
          refine e_aload_n 338 dX15_looks_337 rfl rfl ?_
          refine e_iconst 339 (v := (nI 4)) dX15_looks_338 rfl (by decide) ?_
          refine p_callV 342 hL [1, 0, 2] 3 rfl (by decide) (L1 := [rdv d (svS s (eaP s))]) (L2 := [ansP m F w bg (svA s (eaP s)), iar (F 5) 260 (eaP s)]) rfl rdv_O 1 rfl dX15_looks_339 rfl cv_X15_150 (k_X12_counts (s := (svS s (eaP s))) (k := 4) (by decide) (okD_C ok9 4)) rfl rfl (Nat.le_of_ble_eq_true rfl) ⟨by decide, by omega, by omega⟩ (fun r1 L1 h q hL => ?_)
          obtain ⟨rfl, rfl⟩ := q
          have hL : stars [rdv d (ctD (svS s (eaP s)) 4), ansP m F w bg (svA s (eaP s)), iar (F 5) 260 (eaP s)] h := hL
          have hL : stars [ansP m F w bg (svA s (eaP s)), rdv d (ctD (svS s (eaP s)) 4), iar (F 5) 260 (eaP s)] h := stars_ixn hL 3 rfl [1, 0, 2] (by decide) rfl
          exact e_vret dX15_looks_342 rfl (by omega) (by omega) (⟨_, ⟨rfl, _, _, rfl⟩, by unfold tmD; rw [show tmV s = true by (unfold tmV; rw [show s.2.2.2.2.2.2 0 = false from k176, if_neg (by decide), if_pos (show (s.2.2.2.2.1 6).getD 0 0 = 0 by omega), faF]; exact decide_eq_true (by omega)), show tmR s = false by (unfold tmR; rw [show s.2.2.2.2.2.2 0 = false from k176, decide_eq_true (show (s.2.2.2.2.1 6).getD 0 0 = 0 by omega)]; rfl), if_pos rfl, if_neg (by decide), if_neg (by decide), kr_e]; exact hL⟩)
        · have k264 := j_eq_f (a := ((eaP s).getD 0 0)) (b := 6) (by omega) (by omega) c264
          refine e_iload 269 dX15_looks_267 rfl rfl ?_
          refine e_bipush 271 (v := (nI 15)) dX15_looks_269 rfl (by decide) ?_
          refine e_icmp_eq 295 274 dX15_looks_271 rfl rfl (fun c271 => ?_) (fun c271 => ?_)
          · have k271 := j_eq_t (a := ((eaP s).getD 0 0)) (b := 15) (by omega) (by omega) c271
            refine e_aload_n 296 dX15_looks_295 rfl rfl ?_
            refine e_aload_n 297 dX15_looks_296 rfl rfl ?_
            refine e_aload_n 298 dX15_looks_297 rfl rfl ?_
            refine e_get 301 dX15_looks_298 rfl fl_X15_19_13 (ans_V _ 0 hL rfl) rfl ?_
            refine e_iload_n 302 dX15_looks_301 rfl rfl ?_
            refine p_callV 305 hL [0, 1, 2] 3 rfl (by decide) (L1 := [ansP m F w bg r, rdv d s, iar (F 5) 260 (eaP s)]) (L2 := []) rfl ans_O 0 rfl dX15_looks_302 rfl cv_X15_254 (k_X15_serve he hok (by decide) hq h1 hl9) rfl rfl (Nat.le_of_ble_eq_true rfl) ⟨by decide, by omega, by omega⟩ (fun r1 L1 h q hL => ?_)
            obtain ⟨rfl, rfl⟩ := q
            have hL : stars [ansP m F w bg (svA s (eaP s)), rdv d (svS s (eaP s)), iar (F 5) 260 (eaP s)] h := hL
            refine e_goto 332 dX15_looks_305 rfl ?_
            have ok9 := okD_sv (q := eaP s) hok hq
            have he9 := okE_sv (q := eaP s) he
            refine e_iload 334 dX15_looks_332 rfl rfl ?_
            refine e_if_ne 343 337 dX15_looks_334 rfl rfl (fun c334 => absurd c334 (by decide)) (fun c334 => ?_)
            refine e_aload_n 338 dX15_looks_337 rfl rfl ?_
            refine e_iconst 339 (v := (nI 4)) dX15_looks_338 rfl (by decide) ?_
            refine p_callV 342 hL [1, 0, 2] 3 rfl (by decide) (L1 := [rdv d (svS s (eaP s))]) (L2 := [ansP m F w bg (svA s (eaP s)), iar (F 5) 260 (eaP s)]) rfl rdv_O 1 rfl dX15_looks_339 rfl cv_X15_150 (k_X12_counts (s := (svS s (eaP s))) (k := 4) (by decide) (okD_C ok9 4)) rfl rfl (Nat.le_of_ble_eq_true rfl) ⟨by decide, by omega, by omega⟩ (fun r1 L1 h q hL => ?_)
            obtain ⟨rfl, rfl⟩ := q
            have hL : stars [rdv d (ctD (svS s (eaP s)) 4), ansP m F w bg (svA s (eaP s)), iar (F 5) 260 (eaP s)] h := hL
            have hL : stars [ansP m F w bg (svA s (eaP s)), rdv d (ctD (svS s (eaP s)) 4), iar (F 5) 260 (eaP s)] h := stars_ixn hL 3 rfl [1, 0, 2] (by decide) rfl
            exact e_vret dX15_looks_342 rfl (by omega) (by omega) (⟨_, ⟨rfl, _, _, rfl⟩, by unfold tmD; rw [show tmV s = true by (unfold tmV; rw [show s.2.2.2.2.2.2 0 = false from k176, if_neg (by decide), if_pos (show (s.2.2.2.2.1 6).getD 0 0 = 0 by omega), faF]; exact decide_eq_true (by omega)), show tmR s = false by (unfold tmR; rw [show s.2.2.2.2.2.2 0 = false from k176, decide_eq_true (show (s.2.2.2.2.1 6).getD 0 0 = 0 by omega)]; rfl), if_pos rfl, if_neg (by decide), if_neg (by decide), kr_e]; exact hL⟩)
          · have k271 := j_eq_f (a := ((eaP s).getD 0 0)) (b := 15) (by omega) (by omega) c271
            refine e_iload 276 dX15_looks_274 rfl rfl ?_
            refine e_bipush 278 (v := (nI 16)) dX15_looks_276 rfl (by decide) ?_
            refine e_icmp_eq 295 281 dX15_looks_278 rfl rfl (fun c278 => ?_) (fun c278 => ?_)
            · have k278 := j_eq_t (a := ((eaP s).getD 0 0)) (b := 16) (by omega) (by omega) c278
              refine e_aload_n 296 dX15_looks_295 rfl rfl ?_
              refine e_aload_n 297 dX15_looks_296 rfl rfl ?_
              refine e_aload_n 298 dX15_looks_297 rfl rfl ?_
              refine e_get 301 dX15_looks_298 rfl fl_X15_19_13 (ans_V _ 0 hL rfl) rfl ?_
              refine e_iload_n 302 dX15_looks_301 rfl rfl ?_
              refine p_callV 305 hL [0, 1, 2] 3 rfl (by decide) (L1 := [ansP m F w bg r, rdv d s, iar (F 5) 260 (eaP s)]) (L2 := []) rfl ans_O 0 rfl dX15_looks_302 rfl cv_X15_254 (k_X15_serve he hok (by decide) hq h1 hl9) rfl rfl (Nat.le_of_ble_eq_true rfl) ⟨by decide, by omega, by omega⟩ (fun r1 L1 h q hL => ?_)
              obtain ⟨rfl, rfl⟩ := q
              have hL : stars [ansP m F w bg (svA s (eaP s)), rdv d (svS s (eaP s)), iar (F 5) 260 (eaP s)] h := hL
              refine e_goto 332 dX15_looks_305 rfl ?_
              have ok9 := okD_sv (q := eaP s) hok hq
              have he9 := okE_sv (q := eaP s) he
              refine e_iload 334 dX15_looks_332 rfl rfl ?_
              refine e_if_ne 343 337 dX15_looks_334 rfl rfl (fun c334 => absurd c334 (by decide)) (fun c334 => ?_)
              refine e_aload_n 338 dX15_looks_337 rfl rfl ?_
              refine e_iconst 339 (v := (nI 4)) dX15_looks_338 rfl (by decide) ?_
              refine p_callV 342 hL [1, 0, 2] 3 rfl (by decide) (L1 := [rdv d (svS s (eaP s))]) (L2 := [ansP m F w bg (svA s (eaP s)), iar (F 5) 260 (eaP s)]) rfl rdv_O 1 rfl dX15_looks_339 rfl cv_X15_150 (k_X12_counts (s := (svS s (eaP s))) (k := 4) (by decide) (okD_C ok9 4)) rfl rfl (Nat.le_of_ble_eq_true rfl) ⟨by decide, by omega, by omega⟩ (fun r1 L1 h q hL => ?_)
              obtain ⟨rfl, rfl⟩ := q
              have hL : stars [rdv d (ctD (svS s (eaP s)) 4), ansP m F w bg (svA s (eaP s)), iar (F 5) 260 (eaP s)] h := hL
              have hL : stars [ansP m F w bg (svA s (eaP s)), rdv d (ctD (svS s (eaP s)) 4), iar (F 5) 260 (eaP s)] h := stars_ixn hL 3 rfl [1, 0, 2] (by decide) rfl
              exact e_vret dX15_looks_342 rfl (by omega) (by omega) (⟨_, ⟨rfl, _, _, rfl⟩, by unfold tmD; rw [show tmV s = true by (unfold tmV; rw [show s.2.2.2.2.2.2 0 = false from k176, if_neg (by decide), if_pos (show (s.2.2.2.2.1 6).getD 0 0 = 0 by omega), faF]; exact decide_eq_true (by omega)), show tmR s = false by (unfold tmR; rw [show s.2.2.2.2.2.2 0 = false from k176, decide_eq_true (show (s.2.2.2.2.1 6).getD 0 0 = 0 by omega)]; rfl), if_pos rfl, if_neg (by decide), if_neg (by decide), kr_e]; exact hL⟩)
            · have k278 := j_eq_f (a := ((eaP s).getD 0 0)) (b := 16) (by omega) (by omega) c278
              refine e_iload 283 dX15_looks_281 rfl rfl ?_
              refine e_bipush 285 (v := (nI 21)) dX15_looks_283 rfl (by decide) ?_
              refine e_icmp_eq 295 288 dX15_looks_285 rfl rfl (fun c285 => ?_) (fun c285 => ?_)
              · have k285 := j_eq_t (a := ((eaP s).getD 0 0)) (b := 21) (by omega) (by omega) c285
                refine e_aload_n 296 dX15_looks_295 rfl rfl ?_
                refine e_aload_n 297 dX15_looks_296 rfl rfl ?_
                refine e_aload_n 298 dX15_looks_297 rfl rfl ?_
                refine e_get 301 dX15_looks_298 rfl fl_X15_19_13 (ans_V _ 0 hL rfl) rfl ?_
                refine e_iload_n 302 dX15_looks_301 rfl rfl ?_
                refine p_callV 305 hL [0, 1, 2] 3 rfl (by decide) (L1 := [ansP m F w bg r, rdv d s, iar (F 5) 260 (eaP s)]) (L2 := []) rfl ans_O 0 rfl dX15_looks_302 rfl cv_X15_254 (k_X15_serve he hok (by decide) hq h1 hl9) rfl rfl (Nat.le_of_ble_eq_true rfl) ⟨by decide, by omega, by omega⟩ (fun r1 L1 h q hL => ?_)
                obtain ⟨rfl, rfl⟩ := q
                have hL : stars [ansP m F w bg (svA s (eaP s)), rdv d (svS s (eaP s)), iar (F 5) 260 (eaP s)] h := hL
                refine e_goto 332 dX15_looks_305 rfl ?_
                have ok9 := okD_sv (q := eaP s) hok hq
                have he9 := okE_sv (q := eaP s) he
                refine e_iload 334 dX15_looks_332 rfl rfl ?_
                refine e_if_ne 343 337 dX15_looks_334 rfl rfl (fun c334 => absurd c334 (by decide)) (fun c334 => ?_)
                refine e_aload_n 338 dX15_looks_337 rfl rfl ?_
                refine e_iconst 339 (v := (nI 4)) dX15_looks_338 rfl (by decide) ?_
                refine p_callV 342 hL [1, 0, 2] 3 rfl (by decide) (L1 := [rdv d (svS s (eaP s))]) (L2 := [ansP m F w bg (svA s (eaP s)), iar (F 5) 260 (eaP s)]) rfl rdv_O 1 rfl dX15_looks_339 rfl cv_X15_150 (k_X12_counts (s := (svS s (eaP s))) (k := 4) (by decide) (okD_C ok9 4)) rfl rfl (Nat.le_of_ble_eq_true rfl) ⟨by decide, by omega, by omega⟩ (fun r1 L1 h q hL => ?_)
                obtain ⟨rfl, rfl⟩ := q
                have hL : stars [rdv d (ctD (svS s (eaP s)) 4), ansP m F w bg (svA s (eaP s)), iar (F 5) 260 (eaP s)] h := hL
                have hL : stars [ansP m F w bg (svA s (eaP s)), rdv d (ctD (svS s (eaP s)) 4), iar (F 5) 260 (eaP s)] h := stars_ixn hL 3 rfl [1, 0, 2] (by decide) rfl
                exact e_vret dX15_looks_342 rfl (by omega) (by omega) (⟨_, ⟨rfl, _, _, rfl⟩, by unfold tmD; rw [show tmV s = true by (unfold tmV; rw [show s.2.2.2.2.2.2 0 = false from k176, if_neg (by decide), if_pos (show (s.2.2.2.2.1 6).getD 0 0 = 0 by omega), faF]; exact decide_eq_true (by omega)), show tmR s = false by (unfold tmR; rw [show s.2.2.2.2.2.2 0 = false from k176, decide_eq_true (show (s.2.2.2.2.1 6).getD 0 0 = 0 by omega)]; rfl), if_pos rfl, if_neg (by decide), if_neg (by decide), kr_e]; exact hL⟩)
              · have k285 := j_eq_f (a := ((eaP s).getD 0 0)) (b := 21) (by omega) (by omega) c285
                refine e_iload 290 dX15_looks_288 rfl rfl ?_
                refine e_bipush 292 (v := (nI 22)) dX15_looks_290 rfl (by decide) ?_
                refine e_icmp_ne 332 295 dX15_looks_292 rfl rfl (fun c292 => ?_) (fun c292 => ?_)
                · have k292 := j_ne_t (a := ((eaP s).getD 0 0)) (b := 22) (by omega) (by omega) c292
                  have ok9 := hok
                  have he9 := he
                  refine e_iload 334 dX15_looks_332 rfl rfl ?_
                  refine e_if_ne 343 337 dX15_looks_334 rfl rfl (fun c334 => absurd c334 (by decide)) (fun c334 => ?_)
                  refine e_aload_n 338 dX15_looks_337 rfl rfl ?_
                  refine e_iconst 339 (v := (nI 4)) dX15_looks_338 rfl (by decide) ?_
                  refine p_callV 342 hL [1, 0, 2] 3 rfl (by decide) (L1 := [rdv d s]) (L2 := [ansP m F w bg r, iar (F 5) 260 (eaP s)]) rfl rdv_O 1 rfl dX15_looks_339 rfl cv_X15_150 (k_X12_counts (s := s) (k := 4) (by decide) (okD_C ok9 4)) rfl rfl (Nat.le_of_ble_eq_true rfl) ⟨by decide, by omega, by omega⟩ (fun r1 L1 h q hL => ?_)
                  obtain ⟨rfl, rfl⟩ := q
                  have hL : stars [rdv d (ctD s 4), ansP m F w bg r, iar (F 5) 260 (eaP s)] h := hL
                  have hL : stars [ansP m F w bg r, rdv d (ctD s 4), iar (F 5) 260 (eaP s)] h := stars_ixn hL 3 rfl [1, 0, 2] (by decide) rfl
                  exact e_vret dX15_looks_342 rfl (by omega) (by omega) (⟨_, ⟨rfl, _, _, rfl⟩, by unfold tmD; rw [show tmV s = false by (unfold tmV; rw [show s.2.2.2.2.2.2 0 = false from k176, if_neg (by decide), if_pos (show (s.2.2.2.2.1 6).getD 0 0 = 0 by omega), faF]; exact decide_eq_false (by omega)), show tmR s = false by (unfold tmR; rw [show s.2.2.2.2.2.2 0 = false from k176, decide_eq_true (show (s.2.2.2.2.1 6).getD 0 0 = 0 by omega)]; rfl), if_neg (by decide), if_neg (by decide), if_neg (by decide), kr_e]; exact hL⟩)
                · have k292 := j_ne_f (a := ((eaP s).getD 0 0)) (b := 22) (by omega) (by omega) c292
                  refine e_aload_n 296 dX15_looks_295 rfl rfl ?_
                  refine e_aload_n 297 dX15_looks_296 rfl rfl ?_
                  refine e_aload_n 298 dX15_looks_297 rfl rfl ?_
                  refine e_get 301 dX15_looks_298 rfl fl_X15_19_13 (ans_V _ 0 hL rfl) rfl ?_
                  refine e_iload_n 302 dX15_looks_301 rfl rfl ?_
                  refine p_callV 305 hL [0, 1, 2] 3 rfl (by decide) (L1 := [ansP m F w bg r, rdv d s, iar (F 5) 260 (eaP s)]) (L2 := []) rfl ans_O 0 rfl dX15_looks_302 rfl cv_X15_254 (k_X15_serve he hok (by decide) hq h1 hl9) rfl rfl (Nat.le_of_ble_eq_true rfl) ⟨by decide, by omega, by omega⟩ (fun r1 L1 h q hL => ?_)
                  obtain ⟨rfl, rfl⟩ := q
                  have hL : stars [ansP m F w bg (svA s (eaP s)), rdv d (svS s (eaP s)), iar (F 5) 260 (eaP s)] h := hL
                  refine e_goto 332 dX15_looks_305 rfl ?_
                  have ok9 := okD_sv (q := eaP s) hok hq
                  have he9 := okE_sv (q := eaP s) he
                  refine e_iload 334 dX15_looks_332 rfl rfl ?_
                  refine e_if_ne 343 337 dX15_looks_334 rfl rfl (fun c334 => absurd c334 (by decide)) (fun c334 => ?_)
                  refine e_aload_n 338 dX15_looks_337 rfl rfl ?_
                  refine e_iconst 339 (v := (nI 4)) dX15_looks_338 rfl (by decide) ?_
                  refine p_callV 342 hL [1, 0, 2] 3 rfl (by decide) (L1 := [rdv d (svS s (eaP s))]) (L2 := [ansP m F w bg (svA s (eaP s)), iar (F 5) 260 (eaP s)]) rfl rdv_O 1 rfl dX15_looks_339 rfl cv_X15_150 (k_X12_counts (s := (svS s (eaP s))) (k := 4) (by decide) (okD_C ok9 4)) rfl rfl (Nat.le_of_ble_eq_true rfl) ⟨by decide, by omega, by omega⟩ (fun r1 L1 h q hL => ?_)
                  obtain ⟨rfl, rfl⟩ := q
                  have hL : stars [rdv d (ctD (svS s (eaP s)) 4), ansP m F w bg (svA s (eaP s)), iar (F 5) 260 (eaP s)] h := hL
                  have hL : stars [ansP m F w bg (svA s (eaP s)), rdv d (ctD (svS s (eaP s)) 4), iar (F 5) 260 (eaP s)] h := stars_ixn hL 3 rfl [1, 0, 2] (by decide) rfl
                  exact e_vret dX15_looks_342 rfl (by omega) (by omega) (⟨_, ⟨rfl, _, _, rfl⟩, by unfold tmD; rw [show tmV s = true by (unfold tmV; rw [show s.2.2.2.2.2.2 0 = false from k176, if_neg (by decide), if_pos (show (s.2.2.2.2.1 6).getD 0 0 = 0 by omega), faF]; exact decide_eq_true (by omega)), show tmR s = false by (unfold tmR; rw [show s.2.2.2.2.2.2 0 = false from k176, decide_eq_true (show (s.2.2.2.2.1 6).getD 0 0 = 0 by omega)]; rfl), if_pos rfl, if_neg (by decide), if_neg (by decide), kr_e]; exact hL⟩)
  · have k176 := jb_eq_f c176
    refine e_iload_n 180 dX15_looks_179 rfl rfl ?_
    refine e_if_eq 222 183 dX15_looks_180 rfl rfl (fun c180 => ?_) (fun c180 => ?_)
    · have k180 := j_eq0_t (a := ((dL s 6).getD 0 0)) (by omega) c180
      refine e_iconst 223 (v := (nI 0)) dX15_looks_222 rfl (by decide) ?_
      refine e_istore 225 (ls' := [some (.ref m), some (.ref d), some (.int (nI ((dL s 6).getD 0 0))), some (.int (nI (eaP s).length)), some (.int (nI ((eaP s).getD 0 0))), some (.int (nI 0)), some (.int (nI 0))]) dX15_looks_223 rfl (by decide) rfl ?_
      refine e_iload 227 dX15_looks_225 rfl rfl ?_
      refine e_if_eq 247 230 dX15_looks_227 rfl rfl (fun c227 => ?_) (fun c227 => absurd c227 (by decide))
      refine e_goto 332 dX15_looks_247 rfl ?_
      have ok9 := hok
      have he9 := he
      refine e_iload 334 dX15_looks_332 rfl rfl ?_
      refine e_if_ne 343 337 dX15_looks_334 rfl rfl (fun c334 => absurd c334 (by decide)) (fun c334 => ?_)
      refine e_aload_n 338 dX15_looks_337 rfl rfl ?_
      refine e_iconst 339 (v := (nI 4)) dX15_looks_338 rfl (by decide) ?_
      refine p_callV 342 hL [1, 0, 2] 3 rfl (by decide) (L1 := [rdv d s]) (L2 := [ansP m F w bg r, iar (F 5) 260 (eaP s)]) rfl rdv_O 1 rfl dX15_looks_339 rfl cv_X15_150 (k_X12_counts (s := s) (k := 4) (by decide) (okD_C ok9 4)) rfl rfl (Nat.le_of_ble_eq_true rfl) ⟨by decide, by omega, by omega⟩ (fun r1 L1 h q hL => ?_)
      obtain ⟨rfl, rfl⟩ := q
      have hL : stars [rdv d (ctD s 4), ansP m F w bg r, iar (F 5) 260 (eaP s)] h := hL
      have hL : stars [ansP m F w bg r, rdv d (ctD s 4), iar (F 5) 260 (eaP s)] h := stars_ixn hL 3 rfl [1, 0, 2] (by decide) rfl
      exact e_vret dX15_looks_342 rfl (by omega) (by omega) (⟨_, ⟨rfl, _, _, rfl⟩, by unfold tmD; rw [show tmV s = false by (unfold tmV; rw [show s.2.2.2.2.2.2 0 = true from k176, if_pos rfl, decide_eq_true (show (s.2.2.2.2.1 6).getD 0 0 = 0 by omega), Bool.not_true, Bool.false_and]), show tmR s = false by (unfold tmR; rw [show s.2.2.2.2.2.2 0 = true from k176]; rfl), if_neg (by decide), if_neg (by decide), if_neg (by decide), kr_e]; exact hL⟩)
    · have k180 := j_eq0_f (a := ((dL s 6).getD 0 0)) (by omega) c180
      refine e_iload 185 dX15_looks_183 rfl rfl ?_
      refine e_bipush 187 (v := (nI 8)) dX15_looks_185 rfl (by decide) ?_
      refine e_icmp_ne 222 190 dX15_looks_187 rfl rfl (fun c187 => ?_) (fun c187 => ?_)
      · have k187 := j_ne_t (a := ((eaP s).getD 0 0)) (b := 8) (by omega) (by omega) c187
        refine e_iconst 223 (v := (nI 0)) dX15_looks_222 rfl (by decide) ?_
        refine e_istore 225 (ls' := [some (.ref m), some (.ref d), some (.int (nI ((dL s 6).getD 0 0))), some (.int (nI (eaP s).length)), some (.int (nI ((eaP s).getD 0 0))), some (.int (nI 0)), some (.int (nI 0))]) dX15_looks_223 rfl (by decide) rfl ?_
        refine e_iload 227 dX15_looks_225 rfl rfl ?_
        refine e_if_eq 247 230 dX15_looks_227 rfl rfl (fun c227 => ?_) (fun c227 => absurd c227 (by decide))
        refine e_goto 332 dX15_looks_247 rfl ?_
        have ok9 := hok
        have he9 := he
        refine e_iload 334 dX15_looks_332 rfl rfl ?_
        refine e_if_ne 343 337 dX15_looks_334 rfl rfl (fun c334 => absurd c334 (by decide)) (fun c334 => ?_)
        refine e_aload_n 338 dX15_looks_337 rfl rfl ?_
        refine e_iconst 339 (v := (nI 4)) dX15_looks_338 rfl (by decide) ?_
        refine p_callV 342 hL [1, 0, 2] 3 rfl (by decide) (L1 := [rdv d s]) (L2 := [ansP m F w bg r, iar (F 5) 260 (eaP s)]) rfl rdv_O 1 rfl dX15_looks_339 rfl cv_X15_150 (k_X12_counts (s := s) (k := 4) (by decide) (okD_C ok9 4)) rfl rfl (Nat.le_of_ble_eq_true rfl) ⟨by decide, by omega, by omega⟩ (fun r1 L1 h q hL => ?_)
        obtain ⟨rfl, rfl⟩ := q
        have hL : stars [rdv d (ctD s 4), ansP m F w bg r, iar (F 5) 260 (eaP s)] h := hL
        have hL : stars [ansP m F w bg r, rdv d (ctD s 4), iar (F 5) 260 (eaP s)] h := stars_ixn hL 3 rfl [1, 0, 2] (by decide) rfl
        exact e_vret dX15_looks_342 rfl (by omega) (by omega) (⟨_, ⟨rfl, _, _, rfl⟩, by unfold tmD; rw [show tmV s = false by (unfold tmV; rw [show s.2.2.2.2.2.2 0 = true from k176, if_pos rfl, show rsF (eaP s) = false by (unfold rsF; exact decide_eq_false (fun z => by omega)), Bool.and_false, Bool.and_false]), show tmR s = false by (unfold tmR; rw [show s.2.2.2.2.2.2 0 = true from k176]; rfl), if_neg (by decide), if_neg (by decide), if_neg (by decide), kr_e]; exact hL⟩)
      · have k187 := j_ne_f (a := ((eaP s).getD 0 0)) (b := 8) (by omega) (by omega) c187
        refine e_iload_n 191 dX15_looks_190 rfl rfl ?_
        refine e_iconst 192 (v := (nI 5)) dX15_looks_191 rfl (by decide) ?_
        refine e_icmp_ne 222 195 dX15_looks_192 rfl rfl (fun c192 => ?_) (fun c192 => ?_)
        · have k192 := j_ne_t (a := (eaP s).length) (b := 5) (by omega) (by omega) c192
          refine e_iconst 223 (v := (nI 0)) dX15_looks_222 rfl (by decide) ?_
          refine e_istore 225 (ls' := [some (.ref m), some (.ref d), some (.int (nI ((dL s 6).getD 0 0))), some (.int (nI (eaP s).length)), some (.int (nI ((eaP s).getD 0 0))), some (.int (nI 0)), some (.int (nI 0))]) dX15_looks_223 rfl (by decide) rfl ?_
          refine e_iload 227 dX15_looks_225 rfl rfl ?_
          refine e_if_eq 247 230 dX15_looks_227 rfl rfl (fun c227 => ?_) (fun c227 => absurd c227 (by decide))
          refine e_goto 332 dX15_looks_247 rfl ?_
          have ok9 := hok
          have he9 := he
          refine e_iload 334 dX15_looks_332 rfl rfl ?_
          refine e_if_ne 343 337 dX15_looks_334 rfl rfl (fun c334 => absurd c334 (by decide)) (fun c334 => ?_)
          refine e_aload_n 338 dX15_looks_337 rfl rfl ?_
          refine e_iconst 339 (v := (nI 4)) dX15_looks_338 rfl (by decide) ?_
          refine p_callV 342 hL [1, 0, 2] 3 rfl (by decide) (L1 := [rdv d s]) (L2 := [ansP m F w bg r, iar (F 5) 260 (eaP s)]) rfl rdv_O 1 rfl dX15_looks_339 rfl cv_X15_150 (k_X12_counts (s := s) (k := 4) (by decide) (okD_C ok9 4)) rfl rfl (Nat.le_of_ble_eq_true rfl) ⟨by decide, by omega, by omega⟩ (fun r1 L1 h q hL => ?_)
          obtain ⟨rfl, rfl⟩ := q
          have hL : stars [rdv d (ctD s 4), ansP m F w bg r, iar (F 5) 260 (eaP s)] h := hL
          have hL : stars [ansP m F w bg r, rdv d (ctD s 4), iar (F 5) 260 (eaP s)] h := stars_ixn hL 3 rfl [1, 0, 2] (by decide) rfl
          exact e_vret dX15_looks_342 rfl (by omega) (by omega) (⟨_, ⟨rfl, _, _, rfl⟩, by unfold tmD; rw [show tmV s = false by (unfold tmV; rw [show s.2.2.2.2.2.2 0 = true from k176, if_pos rfl, show rsF (eaP s) = false by (unfold rsF; exact decide_eq_false (fun z => by omega)), Bool.and_false, Bool.and_false]), show tmR s = false by (unfold tmR; rw [show s.2.2.2.2.2.2 0 = true from k176]; rfl), if_neg (by decide), if_neg (by decide), if_neg (by decide), kr_e]; exact hL⟩)
        · have k192 := j_ne_f (a := (eaP s).length) (b := 5) (by omega) (by omega) c192
          refine e_aload_n 196 dX15_looks_195 rfl rfl ?_
          refine e_get 199 dX15_looks_196 rfl fl_X15_19_13 (ans_V _ 0 hL rfl) rfl ?_
          refine e_iconst 200 (v := (nI 1)) dX15_looks_199 rfl (by decide) ?_
          refine u_callS 203 dX15_looks_200 rfl cs_X15_85 (u_X15_two (iar_V _ 2 hL rfl) (k := 1) (by omega) (by omega)) rfl rfl (Nat.le_of_ble_eq_true rfl) (by decide) ⟨by omega, by omega⟩ ?_
          have hw200 := wd_lt (k := 1) hq
          refine e_iconst 204 (v := (nI 1)) dX15_looks_203 rfl (by decide) ?_
          refine e_icmp_ne 222 207 dX15_looks_204 rfl rfl (fun c204 => ?_) (fun c204 => ?_)
          · have k204 := j_ne_t (a := (wd (eaP s) 1)) (b := 1) (by omega) (by omega) c204
            refine e_iconst 223 (v := (nI 0)) dX15_looks_222 rfl (by decide) ?_
            refine e_istore 225 (ls' := [some (.ref m), some (.ref d), some (.int (nI ((dL s 6).getD 0 0))), some (.int (nI (eaP s).length)), some (.int (nI ((eaP s).getD 0 0))), some (.int (nI 0)), some (.int (nI 0))]) dX15_looks_223 rfl (by decide) rfl ?_
            refine e_iload 227 dX15_looks_225 rfl rfl ?_
            refine e_if_eq 247 230 dX15_looks_227 rfl rfl (fun c227 => ?_) (fun c227 => absurd c227 (by decide))
            refine e_goto 332 dX15_looks_247 rfl ?_
            have ok9 := hok
            have he9 := he
            refine e_iload 334 dX15_looks_332 rfl rfl ?_
            refine e_if_ne 343 337 dX15_looks_334 rfl rfl (fun c334 => absurd c334 (by decide)) (fun c334 => ?_)
            refine e_aload_n 338 dX15_looks_337 rfl rfl ?_
            refine e_iconst 339 (v := (nI 4)) dX15_looks_338 rfl (by decide) ?_
            refine p_callV 342 hL [1, 0, 2] 3 rfl (by decide) (L1 := [rdv d s]) (L2 := [ansP m F w bg r, iar (F 5) 260 (eaP s)]) rfl rdv_O 1 rfl dX15_looks_339 rfl cv_X15_150 (k_X12_counts (s := s) (k := 4) (by decide) (okD_C ok9 4)) rfl rfl (Nat.le_of_ble_eq_true rfl) ⟨by decide, by omega, by omega⟩ (fun r1 L1 h q hL => ?_)
            obtain ⟨rfl, rfl⟩ := q
            have hL : stars [rdv d (ctD s 4), ansP m F w bg r, iar (F 5) 260 (eaP s)] h := hL
            have hL : stars [ansP m F w bg r, rdv d (ctD s 4), iar (F 5) 260 (eaP s)] h := stars_ixn hL 3 rfl [1, 0, 2] (by decide) rfl
            exact e_vret dX15_looks_342 rfl (by omega) (by omega) (⟨_, ⟨rfl, _, _, rfl⟩, by unfold tmD; rw [show tmV s = false by (unfold tmV; rw [show s.2.2.2.2.2.2 0 = true from k176, if_pos rfl, show rsF (eaP s) = false by (unfold rsF; exact decide_eq_false (fun z => by omega)), Bool.and_false, Bool.and_false]), show tmR s = false by (unfold tmR; rw [show s.2.2.2.2.2.2 0 = true from k176]; rfl), if_neg (by decide), if_neg (by decide), if_neg (by decide), kr_e]; exact hL⟩)
          · have k204 := j_ne_f (a := (wd (eaP s) 1)) (b := 1) (by omega) (by omega) c204
            refine e_aload_n 208 dX15_looks_207 rfl rfl ?_
            refine e_get 211 dX15_looks_208 rfl fl_X15_19_13 (ans_V _ 0 hL rfl) rfl ?_
            refine e_iload_n 212 dX15_looks_211 rfl rfl ?_
            refine u_callS 215 dX15_looks_212 rfl cs_X15_100 (u_X15_refusal8 (iar_V _ 2 hL rfl) (by decide) hq h1) rfl rfl (Nat.le_of_ble_eq_true rfl) (by decide) ⟨by omega, by omega⟩ ?_
            have hr8 := r8F_le (q := eaP s)
            refine e_if_ne 222 218 dX15_looks_215 rfl rfl (fun c215 => ?_) (fun c215 => ?_)
            · have k215 := j_ne0_t (a := (r8F (eaP s))) (by omega) c215
              refine e_iconst 223 (v := (nI 0)) dX15_looks_222 rfl (by decide) ?_
              refine e_istore 225 (ls' := [some (.ref m), some (.ref d), some (.int (nI ((dL s 6).getD 0 0))), some (.int (nI (eaP s).length)), some (.int (nI ((eaP s).getD 0 0))), some (.int (nI 0)), some (.int (nI 0))]) dX15_looks_223 rfl (by decide) rfl ?_
              refine e_iload 227 dX15_looks_225 rfl rfl ?_
              refine e_if_eq 247 230 dX15_looks_227 rfl rfl (fun c227 => ?_) (fun c227 => absurd c227 (by decide))
              refine e_goto 332 dX15_looks_247 rfl ?_
              have ok9 := hok
              have he9 := he
              refine e_iload 334 dX15_looks_332 rfl rfl ?_
              refine e_if_ne 343 337 dX15_looks_334 rfl rfl (fun c334 => absurd c334 (by decide)) (fun c334 => ?_)
              refine e_aload_n 338 dX15_looks_337 rfl rfl ?_
              refine e_iconst 339 (v := (nI 4)) dX15_looks_338 rfl (by decide) ?_
              refine p_callV 342 hL [1, 0, 2] 3 rfl (by decide) (L1 := [rdv d s]) (L2 := [ansP m F w bg r, iar (F 5) 260 (eaP s)]) rfl rdv_O 1 rfl dX15_looks_339 rfl cv_X15_150 (k_X12_counts (s := s) (k := 4) (by decide) (okD_C ok9 4)) rfl rfl (Nat.le_of_ble_eq_true rfl) ⟨by decide, by omega, by omega⟩ (fun r1 L1 h q hL => ?_)
              obtain ⟨rfl, rfl⟩ := q
              have hL : stars [rdv d (ctD s 4), ansP m F w bg r, iar (F 5) 260 (eaP s)] h := hL
              have hL : stars [ansP m F w bg r, rdv d (ctD s 4), iar (F 5) 260 (eaP s)] h := stars_ixn hL 3 rfl [1, 0, 2] (by decide) rfl
              exact e_vret dX15_looks_342 rfl (by omega) (by omega) (⟨_, ⟨rfl, _, _, rfl⟩, by unfold tmD; rw [show tmV s = false by (unfold tmV; rw [show s.2.2.2.2.2.2 0 = true from k176, if_pos rfl, show rsF (eaP s) = false by (unfold rsF; exact decide_eq_false (fun z => absurd (rs_8 z) (by omega))), Bool.and_false, Bool.and_false]), show tmR s = false by (unfold tmR; rw [show s.2.2.2.2.2.2 0 = true from k176]; rfl), if_neg (by decide), if_neg (by decide), if_neg (by decide), kr_e]; exact hL⟩)
            · have k215 := j_ne0_f (a := (r8F (eaP s))) (by omega) c215
              refine e_iconst 219 (v := (nI 1)) dX15_looks_218 rfl (by decide) ?_
              refine e_goto 223 dX15_looks_219 rfl ?_
              refine e_istore 225 (ls' := [some (.ref m), some (.ref d), some (.int (nI ((dL s 6).getD 0 0))), some (.int (nI (eaP s).length)), some (.int (nI ((eaP s).getD 0 0))), some (.int (nI 0)), some (.int (nI 1))]) dX15_looks_223 rfl (by decide) rfl ?_
              refine e_iload 227 dX15_looks_225 rfl rfl ?_
              refine e_if_eq 247 230 dX15_looks_227 rfl rfl (fun c227 => absurd c227 (by decide)) (fun c227 => ?_)
              refine e_aload_n 231 dX15_looks_230 rfl rfl ?_
              refine e_get 234 dX15_looks_231 rfl fl_X15_147_10 v173_0 rfl ?_
              refine e_if_ne 247 237 dX15_looks_234 rfl rfl (fun c234 => ?_) (fun c234 => ?_)
              · have k234 := j_ne0_t (a := (s.1 18)) (by omega) c234
                refine e_goto 332 dX15_looks_247 rfl ?_
                have ok9 := hok
                have he9 := he
                refine e_iload 334 dX15_looks_332 rfl rfl ?_
                refine e_if_ne 343 337 dX15_looks_334 rfl rfl (fun c334 => absurd c334 (by decide)) (fun c334 => ?_)
                refine e_aload_n 338 dX15_looks_337 rfl rfl ?_
                refine e_iconst 339 (v := (nI 4)) dX15_looks_338 rfl (by decide) ?_
                refine p_callV 342 hL [1, 0, 2] 3 rfl (by decide) (L1 := [rdv d s]) (L2 := [ansP m F w bg r, iar (F 5) 260 (eaP s)]) rfl rdv_O 1 rfl dX15_looks_339 rfl cv_X15_150 (k_X12_counts (s := s) (k := 4) (by decide) (okD_C ok9 4)) rfl rfl (Nat.le_of_ble_eq_true rfl) ⟨by decide, by omega, by omega⟩ (fun r1 L1 h q hL => ?_)
                obtain ⟨rfl, rfl⟩ := q
                have hL : stars [rdv d (ctD s 4), ansP m F w bg r, iar (F 5) 260 (eaP s)] h := hL
                have hL : stars [ansP m F w bg r, rdv d (ctD s 4), iar (F 5) 260 (eaP s)] h := stars_ixn hL 3 rfl [1, 0, 2] (by decide) rfl
                exact e_vret dX15_looks_342 rfl (by omega) (by omega) (⟨_, ⟨rfl, _, _, rfl⟩, by unfold tmD; rw [show tmV s = false by (unfold tmV; rw [show s.2.2.2.2.2.2 0 = true from k176, if_pos rfl, decide_eq_false (show ¬ s.1 18 = 0 by omega), Bool.false_and, Bool.and_false]), show tmR s = false by (unfold tmR; rw [show s.2.2.2.2.2.2 0 = true from k176]; rfl), if_neg (by decide), if_neg (by decide), if_neg (by decide), kr_e]; exact hL⟩)
              · have k234 := j_ne0_f (a := (s.1 18)) (by omega) c234
                refine e_aload_n 238 dX15_looks_237 rfl rfl ?_
                refine e_aload_n 239 dX15_looks_238 rfl rfl ?_
                refine e_aload_n 240 dX15_looks_239 rfl rfl ?_
                refine e_get 243 dX15_looks_240 rfl fl_X15_19_13 (ans_V _ 0 hL rfl) rfl ?_
                refine e_iload_n 244 dX15_looks_243 rfl rfl ?_
                refine p_callV 247 hL [0, 1, 2] 3 rfl (by decide) (L1 := [ansP m F w bg r, rdv d s, iar (F 5) 260 (eaP s)]) (L2 := []) rfl ans_O 0 rfl dX15_looks_244 rfl cv_X15_254 (k_X15_serve he hok (by decide) hq h1 hl9) rfl rfl (Nat.le_of_ble_eq_true rfl) ⟨by decide, by omega, by omega⟩ (fun r1 L1 h q hL => ?_)
                obtain ⟨rfl, rfl⟩ := q
                have hL : stars [ansP m F w bg (svA s (eaP s)), rdv d (svS s (eaP s)), iar (F 5) 260 (eaP s)] h := hL
                refine e_goto 332 dX15_looks_247 rfl ?_
                have ok9 := okD_sv (q := eaP s) hok hq
                have he9 := okE_sv (q := eaP s) he
                refine e_iload 334 dX15_looks_332 rfl rfl ?_
                refine e_if_ne 343 337 dX15_looks_334 rfl rfl (fun c334 => absurd c334 (by decide)) (fun c334 => ?_)
                refine e_aload_n 338 dX15_looks_337 rfl rfl ?_
                refine e_iconst 339 (v := (nI 4)) dX15_looks_338 rfl (by decide) ?_
                refine p_callV 342 hL [1, 0, 2] 3 rfl (by decide) (L1 := [rdv d (svS s (eaP s))]) (L2 := [ansP m F w bg (svA s (eaP s)), iar (F 5) 260 (eaP s)]) rfl rdv_O 1 rfl dX15_looks_339 rfl cv_X15_150 (k_X12_counts (s := (svS s (eaP s))) (k := 4) (by decide) (okD_C ok9 4)) rfl rfl (Nat.le_of_ble_eq_true rfl) ⟨by decide, by omega, by omega⟩ (fun r1 L1 h q hL => ?_)
                obtain ⟨rfl, rfl⟩ := q
                have hL : stars [rdv d (ctD (svS s (eaP s)) 4), ansP m F w bg (svA s (eaP s)), iar (F 5) 260 (eaP s)] h := hL
                have hL : stars [ansP m F w bg (svA s (eaP s)), rdv d (ctD (svS s (eaP s)) 4), iar (F 5) 260 (eaP s)] h := stars_ixn hL 3 rfl [1, 0, 2] (by decide) rfl
                exact e_vret dX15_looks_342 rfl (by omega) (by omega) (⟨_, ⟨rfl, _, _, rfl⟩, by unfold tmD; rw [show tmV s = true by (unfold tmV; rw [show s.2.2.2.2.2.2 0 = true from k176, if_pos rfl, decide_eq_false (show ¬ (s.2.2.2.2.1 6).getD 0 0 = 0 by omega), decide_eq_true (show s.1 18 = 0 by omega), show rsF (eaP s) = true by (unfold rsF; exact decide_eq_true ⟨by omega, by omega, by omega, rs_3 (by omega) (by omega) (by omega) (by omega)⟩)]; rfl), show tmR s = false by (unfold tmR; rw [show s.2.2.2.2.2.2 0 = true from k176]; rfl), if_pos rfl, if_neg (by decide), if_neg (by decide), kr_e]; exact hL⟩)
