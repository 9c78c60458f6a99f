theorem wd_lt {q : List Nat} {k : Nat} (h : ∀ x ∈ q, x < 256) : wd q k < 65536 := by
  have h1 := gd_lt (i := k) h (by decide)
  have h2 := gd_lt (i := k + 1) h (by decide)
  unfold wd
  split <;> omega
/-- the refusal's code of writing m words of q from byte fb on at t; 0 without one -/
def rgF (lm : Nat → Nat) (nl fr n : Nat) (q : List Nat) (t m fb : Nat) : Nat := if plI fr n (nI t) m then (if (List.range m).all (fun i => mbg lm nl (t + i) (wd q (fb + 2 * i))) then 0 else 3) else 2
theorem all_succ {P : Nat → Bool} {i : Nat} (h : (List.range i).all P = true) (hi : P i = true) : (List.range (i + 1)).all P = true := by
  rw [List.range_succ, List.all_append, h]
  simpa using hi
theorem all_f {P : Nat → Bool} {i m : Nat} (hi : i < m) (h : P i = false) : (List.range m).all P = false := by
  cases e : (List.range m).all P with
  | false => rfl
  | true =>
    rw [List.all_eq_true] at e
    rw [e i (List.mem_range.mpr hi)] at h
    cases h
set_option maxRecDepth 20000 in
set_option maxHeartbeats 2000000 in
theorem l_X1_registersFault {d t m fb b cb fr : Nat} {A v : Nat → Nat} {df : Bool} {lm : Nat → Nat} {vs q : List Nat} (h8 : v 8 ≤ 8) (hb : ∀ i, lm i < 200000) (hq : ∀ x ∈ q, x < 256) (ht : t < 65536) (hm : m < 3000) (hfb : fb < 100) (hp : plI fr vs.length (nI t) m = true) : ∀ (n : Nat) (i : Nat) (h : eH), m - i < n → i ≤ m → (List.range i).all (fun i => mbg lm (v 8) (t + i) (wd q (fb + 2 * i))) = true → stars [pt d (.inr (1, [.int (nI (v 0)), .int (nI (v 1)), .int (nI (v 2)), .ref (A 3), .ref (A 4), .ref (A 5), .ref (A 6), .ref (A 7), .int (nI (v 8)), .ref (A 9), .ref (A 10), .ref (A 11), .ref (A 12), .ref (A 13), .ref (A 14), .ref (A 15), .ref (A 16), .int (nI (v 17)), .int (nI (v 18)), .int (bI df)])), bank (A 5) 65535 fr vs, pt (A 7) (.inl (0, 32, .inl (fun i => nI (lm i)))), row b cb q] h → EE mX1_registersFault 1 24 0 0 (fun r h' => ∃ L', (r = some (.int (nI (rgF lm (v 8) fr vs.length q t m fb))) ∧ L' = [dvO d A v df, bank (A 5) 65535 fr vs, pI (A 7) 32 lm, row b cb q]) ∧ stars L' h') 17 [some (.ref d), some (.int (nI t)), some (.int (nI m)), some (.ref b), some (.int (nI fb)), some (.int (nI i))] [] h 0 0 := by
  intro n
  induction n with
  | zero => intro i h hlt hi he hL; exact absurd hlt (by omega)
  | succ n ih =>
    intro i h hlt hi he hL
    refine e_iload 19 dX1_registersFault_17 rfl rfl ?_
    refine e_iload_n 20 dX1_registersFault_19 rfl rfl ?_
    refine e_icmp_ge 53 23 dX1_registersFault_20 rfl rfl (fun c20 => ?_) (fun c20 => ?_)
    · have k20 := j_ge_t (a := i) (b := m) (by omega) (by omega) c20
      refine e_iconst 54 (v := (nI 0)) dX1_registersFault_53 rfl (by decide) ?_
      exact e_iret dX1_registersFault_54 rfl (by omega) (by omega) (⟨_, ⟨by rw [rgF, if_pos hp, if_pos (by rw [show m = i by omega]; exact he)], rfl⟩, hL⟩)
    · have k20 := j_ge_f (a := i) (b := m) (by omega) (by omega) c20
      refine e_aload_n 24 dX1_registersFault_23 rfl rfl ?_
      refine e_iload_n 25 dX1_registersFault_24 rfl rfl ?_
      refine e_iload 27 dX1_registersFault_25 rfl rfl ?_
      refine e_iadd 28 (v := (nI (t + i))) dX1_registersFault_27 rfl (nI_add t i) ?_
      refine e_aload_n 29 dX1_registersFault_28 rfl rfl ?_
      refine e_iload 31 dX1_registersFault_29 rfl rfl ?_
      refine e_iconst 32 (v := (nI 2)) dX1_registersFault_31 rfl (by decide) ?_
      refine e_iload 34 dX1_registersFault_32 rfl rfl ?_
      refine e_imul 35 (v := (nI (2 * i))) dX1_registersFault_34 rfl (pk_mul 2 i) ?_
      refine e_iadd 36 (v := (nI (fb + (2 * i)))) dX1_registersFault_35 rfl (nI_add fb (2 * i)) ?_
      refine p_callV 39 hL [3, 0, 1, 2] 4 rfl (by decide) (L1 := [row b cb q]) (L2 := [pt d (.inr (1, [.int (nI (v 0)), .int (nI (v 1)), .int (nI (v 2)), .ref (A 3), .ref (A 4), .ref (A 5), .ref (A 6), .ref (A 7), .int (nI (v 8)), .ref (A 9), .ref (A 10), .ref (A 11), .ref (A 12), .ref (A 13), .ref (A 14), .ref (A 15), .ref (A 16), .int (nI (v 17)), .int (nI (v 18)), .int (bI df)])), bank (A 5) 65535 fr vs, pt (A 7) (.inl (0, 32, .inl (fun i => nI (lm i))))]) rfl row_O 3 rfl dX1_registersFault_36 rfl cv_X1_89 (k_X4_word (by omega)) rfl rfl (Nat.le_of_ble_eq_true rfl) ⟨by decide, by omega, by omega⟩ (fun r1 L1 h q hL => ?_)
      obtain ⟨rfl, rfl⟩ := q
      have hL : stars [row b cb q, pt d (.inr (1, [.int (nI (v 0)), .int (nI (v 1)), .int (nI (v 2)), .ref (A 3), .ref (A 4), .ref (A 5), .ref (A 6), .ref (A 7), .int (nI (v 8)), .ref (A 9), .ref (A 10), .ref (A 11), .ref (A 12), .ref (A 13), .ref (A 14), .ref (A 15), .ref (A 16), .int (nI (v 17)), .int (nI (v 18)), .int (bI df)])), bank (A 5) 65535 fr vs, pt (A 7) (.inl (0, 32, .inl (fun i => nI (lm i))))] h := hL
      have hL : stars [pt d (.inr (1, [.int (nI (v 0)), .int (nI (v 1)), .int (nI (v 2)), .ref (A 3), .ref (A 4), .ref (A 5), .ref (A 6), .ref (A 7), .int (nI (v 8)), .ref (A 9), .ref (A 10), .ref (A 11), .ref (A 12), .ref (A 13), .ref (A 14), .ref (A 15), .ref (A 16), .int (nI (v 17)), .int (nI (v 18)), .int (bI df)])), bank (A 5) 65535 fr vs, pt (A 7) (.inl (0, 32, .inl (fun i => nI (lm i)))), row b cb q] h := stars_ixn hL 4 rfl [1, 2, 3, 0] (by decide) rfl
      have hw := wd_lt (k := fb + 2 * i) hq
      refine p_callV 42 hL [0, 2, 1, 3] 4 rfl (by decide) (L1 := [pt d (.inr (1, [.int (nI (v 0)), .int (nI (v 1)), .int (nI (v 2)), .ref (A 3), .ref (A 4), .ref (A 5), .ref (A 6), .ref (A 7), .int (nI (v 8)), .ref (A 9), .ref (A 10), .ref (A 11), .ref (A 12), .ref (A 13), .ref (A 14), .ref (A 15), .ref (A 16), .int (nI (v 17)), .int (nI (v 18)), .int (bI df)])), pt (A 7) (.inl (0, 32, .inl (fun i => nI (lm i))))]) (L2 := [bank (A 5) 65535 fr vs, row b cb q]) rfl isO_pt 0 rfl dX1_registersFault_39 rfl cv_X1_93 (k_X1_mayBeGiven (A := A) (v := v) (df := df) h8 hb (by omega) (by omega)) rfl rfl (Nat.le_of_ble_eq_true rfl) ⟨by decide, by omega, by omega⟩ (fun r1 L1 h q hL => ?_)
      obtain ⟨rfl, rfl⟩ := q
      have hL : stars [pt d (.inr (1, [.int (nI (v 0)), .int (nI (v 1)), .int (nI (v 2)), .ref (A 3), .ref (A 4), .ref (A 5), .ref (A 6), .ref (A 7), .int (nI (v 8)), .ref (A 9), .ref (A 10), .ref (A 11), .ref (A 12), .ref (A 13), .ref (A 14), .ref (A 15), .ref (A 16), .int (nI (v 17)), .int (nI (v 18)), .int (bI df)])), pt (A 7) (.inl (0, 32, .inl (fun i => nI (lm i)))), bank (A 5) 65535 fr vs, row b cb q] h := hL
      have hL : stars [pt d (.inr (1, [.int (nI (v 0)), .int (nI (v 1)), .int (nI (v 2)), .ref (A 3), .ref (A 4), .ref (A 5), .ref (A 6), .ref (A 7), .int (nI (v 8)), .ref (A 9), .ref (A 10), .ref (A 11), .ref (A 12), .ref (A 13), .ref (A 14), .ref (A 15), .ref (A 16), .int (nI (v 17)), .int (nI (v 18)), .int (bI df)])), bank (A 5) 65535 fr vs, pt (A 7) (.inl (0, 32, .inl (fun i => nI (lm i)))), row b cb q] h := stars_ix hL [0, 2, 1, 3] rfl rfl
      refine e_if_ne 47 45 dX1_registersFault_42 rfl rfl (fun c42 => ?_) (fun c42 => ?_)
      · have k42 := jb_ne_t c42
        refine e_iinc 50 (v := (nI (i + 1))) (ls' := [some (.ref d), some (.int (nI t)), some (.int (nI m)), some (.ref b), some (.int (nI fb)), some (.int (nI (i + 1)))]) dX1_registersFault_47 rfl rfl (nI_add i 1) (by decide) rfl ?_
        refine e_goto 17 dX1_registersFault_50 rfl ?_
        exact ih (i + 1) h (by omega) (by omega) (all_succ he k42) hL
      · have k42 := jb_ne_f c42
        refine e_iconst 46 (v := (nI 3)) dX1_registersFault_45 rfl (by decide) ?_
        exact e_iret dX1_registersFault_46 rfl (by omega) (by omega) (⟨_, ⟨by rw [rgF, if_pos hp, if_neg (by rw [all_f (i := i) (by omega) k42]; decide)], rfl⟩, hL⟩)
set_option maxRecDepth 20000 in
set_option maxHeartbeats 2000000 in
/-- registersFault(at, m, q, firstByte) -/
theorem k_X1_registersFault {d t m fb b cb fr : Nat} {A v : Nat → Nat} {df : Bool} {lm : Nat → Nat} {vs q : List Nat} (h8 : v 8 ≤ 8) (hb : ∀ i, lm i < 200000) (hq : ∀ x ∈ q, x < 256) (ht : t < 65536) (hm : m < 3000) (hfb : fb < 100) : CA mX1_registersFault [.ref d, .int (nI t), .int (nI m), .ref b, .int (nI fb)] [dvO d A v df, bank (A 5) 65535 fr vs, pI (A 7) 32 lm, row b cb q] (fun r L => r = some (.int (nI (rgF lm (v 8) fr vs.length q t m fb))) ∧ L = [dvO d A v df, bank (A 5) 65535 fr vs, pI (A 7) 32 lm, row b cb q]) 1 24 0 0 := by
  refine CA.mk 1 (ls := [some (.ref d), some (.int (nI t)), some (.int (nI m)), some (.ref b), some (.int (nI fb)), none]) rfl rfl (Nat.le_of_ble_eq_true rfl) rfl (fun h hL => ?_)
  refine e_aload_n 1 dX1_registersFault_0 rfl rfl ?_
  refine e_get 4 dX1_registersFault_1 rfl fl_X1_34_1 (stars_at _ 0 hL rfl) rfl ?_
  refine e_iload_n 5 dX1_registersFault_4 rfl rfl ?_
  refine e_iload_n 6 dX1_registersFault_5 rfl rfl ?_
  refine p_callV 9 hL [1, 0, 2, 3] 4 rfl (by decide) (L1 := [bank (A 5) 65535 fr vs]) (L2 := [pt d (.inr (1, [.int (nI (v 0)), .int (nI (v 1)), .int (nI (v 2)), .ref (A 3), .ref (A 4), .ref (A 5), .ref (A 6), .ref (A 7), .int (nI (v 8)), .ref (A 9), .ref (A 10), .ref (A 11), .ref (A 12), .ref (A 13), .ref (A 14), .ref (A 15), .ref (A 16), .int (nI (v 17)), .int (nI (v 18)), .int (bI df)])), pt (A 7) (.inl (0, 32, .inl (fun i => nI (lm i)))), row b cb q]) rfl bank_O 1 rfl dX1_registersFault_6 rfl cv_X1_85 (k_X0_has (by omega)) rfl rfl (Nat.le_of_ble_eq_true rfl) ⟨by decide, by omega, by omega⟩ (fun r1 L1 h q hL => ?_)
  obtain ⟨rfl, rfl⟩ := q
  have hL : stars [bank (A 5) 65535 fr vs, pt d (.inr (1, [.int (nI (v 0)), .int (nI (v 1)), .int (nI (v 2)), .ref (A 3), .ref (A 4), .ref (A 5), .ref (A 6), .ref (A 7), .int (nI (v 8)), .ref (A 9), .ref (A 10), .ref (A 11), .ref (A 12), .ref (A 13), .ref (A 14), .ref (A 15), .ref (A 16), .int (nI (v 17)), .int (nI (v 18)), .int (bI df)])), pt (A 7) (.inl (0, 32, .inl (fun i => nI (lm i)))), row b cb q] h := hL
  have hL : stars [pt d (.inr (1, [.int (nI (v 0)), .int (nI (v 1)), .int (nI (v 2)), .ref (A 3), .ref (A 4), .ref (A 5), .ref (A 6), .ref (A 7), .int (nI (v 8)), .ref (A 9), .ref (A 10), .ref (A 11), .ref (A 12), .ref (A 13), .ref (A 14), .ref (A 15), .ref (A 16), .int (nI (v 17)), .int (nI (v 18)), .int (bI df)])), bank (A 5) 65535 fr vs, pt (A 7) (.inl (0, 32, .inl (fun i => nI (lm i)))), row b cb q] h := stars_ix hL [1, 0, 2, 3] rfl rfl
  refine e_if_ne 14 12 dX1_registersFault_9 rfl rfl (fun c9 => ?_) (fun c9 => ?_)
  · have k9 := jb_ne_t c9
    refine e_iconst 15 (v := (nI 0)) dX1_registersFault_14 rfl (by decide) ?_
    refine e_istore 17 (ls' := [some (.ref d), some (.int (nI t)), some (.int (nI m)), some (.ref b), some (.int (nI fb)), some (.int (nI 0))]) dX1_registersFault_15 rfl (by decide) rfl ?_
    exact l_X1_registersFault h8 hb hq ht hm hfb k9 (m + 1) 0 h (by omega) (by omega) rfl hL
  · have k9 := jb_ne_f c9
    refine e_iconst 13 (v := (nI 2)) dX1_registersFault_12 rfl (by decide) ?_
    exact e_iret dX1_registersFault_13 rfl (by omega) (by omega) (⟨_, ⟨by rw [rgF, if_neg (by rw [k9]; decide)], rfl⟩, hL⟩)
def cUp (ct : Nat → Nat) (k : Nat) : Nat → Nat := upN ct k ((ct k + 1) % 2 ^ 16)
/-- keepReply: counters, log, reply, numbers -/
def krC (ct : Nat → Nat) (p : List Nat) (code : Nat) : Nat → Nat := if p = [] then cUp ct 4 else if code = 0 then ct else cUp ct 2
def krL (lo p : List Nat) (code : Nat) : List Nat := if p = [] then lo else if code = 0 then lat 64 lo 64 else if code = 6 then lat 64 lo 68 else lat 64 lo 65
def krR (rp p : List Nat) : List Nat := if p = [] then rp else p
def krV (v : Nat → Nat) (p : List Nat) : Nat → Nat := if p = [] then v else upN v 17 (v 2)
set_option maxRecDepth 20000 in
set_option maxHeartbeats 2000000 in
/-- keepReply(coming, code) -/
theorem k_X1_keepReply {d b code : Nat} {A v : Nat → Nat} {df : Bool} {ct : Nat → Nat} {lo rp p : List Nat} (hct : ∀ i, i < 9 → ct i < 65536) (hcode : code < 256) : CA mX1_keepReply [.ref d, .ref b, .int (nI code)] [dvO d A v df, pI (A 13) 9 ct, row (A 14) 64 lo, row (A 16) 253 rp, row b 253 p] (fun r L => r = none ∧ L = [dvO d A (krV v p) df, pI (A 13) 9 (krC ct p code), row (A 14) 64 (krL lo p code), row (A 16) 253 (krR rp p), row b 253 p]) 2 48 0 0 := by
  refine CA.mk 0 (ls := [some (.ref d), some (.ref b), some (.int (nI code))]) rfl rfl (Nat.le_of_ble_eq_true rfl) rfl (fun h hL => ?_)
  have hp := (row_len _ 4 hL rfl).1
  refine e_aload_n 1 dX1_keepReply_0 rfl rfl ?_
  obtain ⟨z1, y1⟩ := row_at _ 4 hL rfl
  refine e_get 4 dX1_keepReply_1 rfl fl_X1_119_4 y1 rfl ?_
  refine e_if_ne 13 7 dX1_keepReply_4 rfl rfl (fun c4 => ?_) (fun c4 => ?_)
  · have k4 := j_ne0_t (a := p.length) (by omega) c4
    refine e_aload_n 14 dX1_keepReply_13 rfl rfl ?_
    refine e_get 17 dX1_keepReply_14 rfl fl_X1_79_1 (stars_at _ 0 hL rfl) rfl ?_
    refine e_aload_n 18 dX1_keepReply_17 rfl rfl ?_
    refine e_iconst 19 (v := (nI 0)) dX1_keepReply_18 rfl (by decide) ?_
    refine e_aload_n 20 dX1_keepReply_19 rfl rfl ?_
    obtain ⟨z20, y20⟩ := row_at _ 4 hL rfl
    refine e_get 23 dX1_keepReply_20 rfl fl_X1_119_4 y20 rfl ?_
    refine p_callV 26 hL [3, 4, 0, 1, 2] 5 rfl (by decide) (L1 := [row (A 16) 253 rp, row b 253 p]) (L2 := [pt d (.inr (1, [.int (nI (v 0)), .int (nI (v 1)), .int (nI (v 2)), .ref (A 3), .ref (A 4), .ref (A 5), .ref (A 6), .ref (A 7), .int (nI (v 8)), .ref (A 9), .ref (A 10), .ref (A 11), .ref (A 12), .ref (A 13), .ref (A 14), .ref (A 15), .ref (A 16), .int (nI (v 17)), .int (nI (v 18)), .int (bI df)])), pt (A 13) (.inl (0, 9, .inl (fun i => nI (ct i)))), row (A 14) 64 lo]) rfl row_O 3 rfl dX1_keepReply_23 rfl cv_X1_122 (k_X4_become (by omega) (by omega)) rfl rfl (Nat.le_of_ble_eq_true rfl) ⟨by decide, by omega, by omega⟩ (fun r1 L1 h q hL => ?_)
    obtain ⟨rfl, rfl⟩ := q
    have hL : stars [row (A 16) 253 ((pf p 0 p.length).take 253), row b 253 p, pt d (.inr (1, [.int (nI (v 0)), .int (nI (v 1)), .int (nI (v 2)), .ref (A 3), .ref (A 4), .ref (A 5), .ref (A 6), .ref (A 7), .int (nI (v 8)), .ref (A 9), .ref (A 10), .ref (A 11), .ref (A 12), .ref (A 13), .ref (A 14), .ref (A 15), .ref (A 16), .int (nI (v 17)), .int (nI (v 18)), .int (bI df)])), pt (A 13) (.inl (0, 9, .inl (fun i => nI (ct i)))), row (A 14) 64 lo] h := hL
    have hL : stars [pt d (.inr (1, [.int (nI (v 0)), .int (nI (v 1)), .int (nI (v 2)), .ref (A 3), .ref (A 4), .ref (A 5), .ref (A 6), .ref (A 7), .int (nI (v 8)), .ref (A 9), .ref (A 10), .ref (A 11), .ref (A 12), .ref (A 13), .ref (A 14), .ref (A 15), .ref (A 16), .int (nI (v 17)), .int (nI (v 18)), .int (bI df)])), pt (A 13) (.inl (0, 9, .inl (fun i => nI (ct i)))), row (A 14) 64 lo, row (A 16) 253 ((pf p 0 p.length).take 253), row b 253 p] h := stars_ixn hL 5 rfl [2, 3, 4, 0, 1] (by decide) rfl
    rw [pf_self, List.take_of_length_le hp] at hL
    have hL : stars [pt d (.inr (1, [.int (nI (v 0)), .int (nI (v 1)), .int (nI (v 2)), .ref (A 3), .ref (A 4), .ref (A 5), .ref (A 6), .ref (A 7), .int (nI (v 8)), .ref (A 9), .ref (A 10), .ref (A 11), .ref (A 12), .ref (A 13), .ref (A 14), .ref (A 15), .ref (A 16), .int (nI (v 17)), .int (nI (v 18)), .int (bI df)])), pt (A 13) (.inl (0, 9, .inl (fun i => nI (ct i)))), row (A 14) 64 lo, row (A 16) 253 p, row b 253 p] h := hL
    refine e_aload_n 27 dX1_keepReply_26 rfl rfl ?_
    refine e_aload_n 28 dX1_keepReply_27 rfl rfl ?_
    refine e_get 31 dX1_keepReply_28 rfl fl_X1_18_1 (stars_at _ 0 hL rfl) rfl ?_
    refine p_put 34 hL 0 (fs' := [.int (nI (v 0)), .int (nI (v 1)), .int (nI (v 2)), .ref (A 3), .ref (A 4), .ref (A 5), .ref (A 6), .ref (A 7), .int (nI (v 8)), .ref (A 9), .ref (A 10), .ref (A 11), .ref (A 12), .ref (A 13), .ref (A 14), .ref (A 15), .ref (A 16), .int (nI (v 2)), .int (nI (v 18)), .int (bI df)]) (L' := [pt d (.inr (1, [.int (nI (v 0)), .int (nI (v 1)), .int (nI (v 2)), .ref (A 3), .ref (A 4), .ref (A 5), .ref (A 6), .ref (A 7), .int (nI (v 8)), .ref (A 9), .ref (A 10), .ref (A 11), .ref (A 12), .ref (A 13), .ref (A 14), .ref (A 15), .ref (A 16), .int (nI (v 2)), .int (nI (v 18)), .int (bI df)])), pt (A 13) (.inl (0, 9, .inl (fun i => nI (ct i)))), row (A 14) 64 lo, row (A 16) 253 p, row b 253 p]) rfl rfl dX1_keepReply_31 rfl fp_X1_126_1 (Or.inl rfl) (Nat.le_of_ble_eq_true rfl) rfl rfl rfl (fun h hL => ?_)
    refine e_iload_n 35 dX1_keepReply_34 rfl rfl ?_
    refine e_if_ne 48 38 dX1_keepReply_35 rfl rfl (fun c35 => ?_) (fun c35 => ?_)
    · have k35 := j_ne0_t (a := code) (by omega) c35
      refine e_aload_n 49 dX1_keepReply_48 rfl rfl ?_
      refine e_iconst 50 (v := (nI 2)) dX1_keepReply_49 rfl (by decide) ?_
      refine p_callV 53 hL [0, 1, 2, 3, 4] 5 rfl (by decide) (L1 := [pt d (.inr (1, [.int (nI (v 0)), .int (nI (v 1)), .int (nI (v 2)), .ref (A 3), .ref (A 4), .ref (A 5), .ref (A 6), .ref (A 7), .int (nI (v 8)), .ref (A 9), .ref (A 10), .ref (A 11), .ref (A 12), .ref (A 13), .ref (A 14), .ref (A 15), .ref (A 16), .int (nI (v 2)), .int (nI (v 18)), .int (bI df)])), pt (A 13) (.inl (0, 9, .inl (fun i => nI (ct i))))]) (L2 := [row (A 14) 64 lo, row (A 16) 253 p, row b 253 p]) rfl isO_pt 0 rfl dX1_keepReply_50 rfl cv_X1_104 (k_X1_count (A := A) (v := (upN v 17 (v 2))) (df := df) (ct := ct) (by decide) (hct _ (by decide))) rfl rfl (Nat.le_of_ble_eq_true rfl) ⟨by decide, by omega, by omega⟩ (fun r1 L1 h q hL => ?_)
      obtain ⟨rfl, rfl⟩ := q
      have hL : stars [pt d (.inr (1, [.int (nI (v 0)), .int (nI (v 1)), .int (nI (v 2)), .ref (A 3), .ref (A 4), .ref (A 5), .ref (A 6), .ref (A 7), .int (nI (v 8)), .ref (A 9), .ref (A 10), .ref (A 11), .ref (A 12), .ref (A 13), .ref (A 14), .ref (A 15), .ref (A 16), .int (nI (v 2)), .int (nI (v 18)), .int (bI df)])), pt (A 13) (.inl (0, 9, .inl (fun i => nI ((upN ct 2 ((ct 2 + 1) % 2 ^ 16)) i)))), row (A 14) 64 lo, row (A 16) 253 p, row b 253 p] h := hL
      refine e_aload_n 54 dX1_keepReply_53 rfl rfl ?_
      refine e_get 57 dX1_keepReply_54 rfl fl_X1_69_1 (stars_at _ 0 hL rfl) rfl ?_
      refine e_iload_n 58 dX1_keepReply_57 rfl rfl ?_
      refine e_bipush 60 (v := (nI 6)) dX1_keepReply_58 rfl (by decide) ?_
      refine e_icmp_ne 68 63 dX1_keepReply_60 rfl rfl (fun c60 => ?_) (fun c60 => ?_)
      · have k60 := j_ne_t (a := code) (b := 6) (by omega) (by omega) c60
        refine e_bipush 70 (v := (nI 65)) dX1_keepReply_68 rfl (by decide) ?_
        refine p_callV 73 hL [2, 0, 1, 3, 4] 5 rfl (by decide) (L1 := [row (A 14) 64 lo]) (L2 := [pt d (.inr (1, [.int (nI (v 0)), .int (nI (v 1)), .int (nI (v 2)), .ref (A 3), .ref (A 4), .ref (A 5), .ref (A 6), .ref (A 7), .int (nI (v 8)), .ref (A 9), .ref (A 10), .ref (A 11), .ref (A 12), .ref (A 13), .ref (A 14), .ref (A 15), .ref (A 16), .int (nI (v 2)), .int (nI (v 18)), .int (bI df)])), pt (A 13) (.inl (0, 9, .inl (fun i => nI ((upN ct 2 ((ct 2 + 1) % 2 ^ 16)) i)))), row (A 16) 253 p, row b 253 p]) rfl row_O 2 rfl dX1_keepReply_70 rfl cv_X1_110 k_X4_addLatest rfl rfl (Nat.le_of_ble_eq_true rfl) ⟨by decide, by omega, by omega⟩ (fun r1 L1 h q hL => ?_)
        obtain ⟨rfl, rfl⟩ := q
        have hL : stars [row (A 14) 64 (lat 64 lo 65), pt d (.inr (1, [.int (nI (v 0)), .int (nI (v 1)), .int (nI (v 2)), .ref (A 3), .ref (A 4), .ref (A 5), .ref (A 6), .ref (A 7), .int (nI (v 8)), .ref (A 9), .ref (A 10), .ref (A 11), .ref (A 12), .ref (A 13), .ref (A 14), .ref (A 15), .ref (A 16), .int (nI (v 2)), .int (nI (v 18)), .int (bI df)])), pt (A 13) (.inl (0, 9, .inl (fun i => nI ((upN ct 2 ((ct 2 + 1) % 2 ^ 16)) i)))), row (A 16) 253 p, row b 253 p] h := hL
        have hL : stars [pt d (.inr (1, [.int (nI (v 0)), .int (nI (v 1)), .int (nI (v 2)), .ref (A 3), .ref (A 4), .ref (A 5), .ref (A 6), .ref (A 7), .int (nI (v 8)), .ref (A 9), .ref (A 10), .ref (A 11), .ref (A 12), .ref (A 13), .ref (A 14), .ref (A 15), .ref (A 16), .int (nI (v 2)), .int (nI (v 18)), .int (bI df)])), pt (A 13) (.inl (0, 9, .inl (fun i => nI ((upN ct 2 ((ct 2 + 1) % 2 ^ 16)) i)))), row (A 14) 64 (lat 64 lo 65), row (A 16) 253 p, row b 253 p] h := stars_ixn hL 5 rfl [1, 2, 0, 3, 4] (by decide) rfl
        exact e_vret dX1_keepReply_73 rfl (by omega) (by omega) (⟨_, ⟨rfl, rfl⟩, by rw [krC, if_neg (fun z => by rw [z] at k4; exact k4 rfl), if_neg (by omega), krL, if_neg (fun z => by rw [z] at k4; exact k4 rfl), if_neg (by omega), if_neg (by omega), krR, if_neg (fun z => by rw [z] at k4; exact k4 rfl), krV, if_neg (fun z => by rw [z] at k4; exact k4 rfl)]; exact hL⟩)
      · have k60 := j_ne_f (a := code) (b := 6) (by omega) (by omega) c60
        refine e_bipush 65 (v := (nI 68)) dX1_keepReply_63 rfl (by decide) ?_
        refine e_goto 70 dX1_keepReply_65 rfl ?_
        refine p_callV 73 hL [2, 0, 1, 3, 4] 5 rfl (by decide) (L1 := [row (A 14) 64 lo]) (L2 := [pt d (.inr (1, [.int (nI (v 0)), .int (nI (v 1)), .int (nI (v 2)), .ref (A 3), .ref (A 4), .ref (A 5), .ref (A 6), .ref (A 7), .int (nI (v 8)), .ref (A 9), .ref (A 10), .ref (A 11), .ref (A 12), .ref (A 13), .ref (A 14), .ref (A 15), .ref (A 16), .int (nI (v 2)), .int (nI (v 18)), .int (bI df)])), pt (A 13) (.inl (0, 9, .inl (fun i => nI ((upN ct 2 ((ct 2 + 1) % 2 ^ 16)) i)))), row (A 16) 253 p, row b 253 p]) rfl row_O 2 rfl dX1_keepReply_70 rfl cv_X1_110 k_X4_addLatest rfl rfl (Nat.le_of_ble_eq_true rfl) ⟨by decide, by omega, by omega⟩ (fun r1 L1 h q hL => ?_)
        obtain ⟨rfl, rfl⟩ := q
        have hL : stars [row (A 14) 64 (lat 64 lo 68), pt d (.inr (1, [.int (nI (v 0)), .int (nI (v 1)), .int (nI (v 2)), .ref (A 3), .ref (A 4), .ref (A 5), .ref (A 6), .ref (A 7), .int (nI (v 8)), .ref (A 9), .ref (A 10), .ref (A 11), .ref (A 12), .ref (A 13), .ref (A 14), .ref (A 15), .ref (A 16), .int (nI (v 2)), .int (nI (v 18)), .int (bI df)])), pt (A 13) (.inl (0, 9, .inl (fun i => nI ((upN ct 2 ((ct 2 + 1) % 2 ^ 16)) i)))), row (A 16) 253 p, row b 253 p] h := hL
        have hL : stars [pt d (.inr (1, [.int (nI (v 0)), .int (nI (v 1)), .int (nI (v 2)), .ref (A 3), .ref (A 4), .ref (A 5), .ref (A 6), .ref (A 7), .int (nI (v 8)), .ref (A 9), .ref (A 10), .ref (A 11), .ref (A 12), .ref (A 13), .ref (A 14), .ref (A 15), .ref (A 16), .int (nI (v 2)), .int (nI (v 18)), .int (bI df)])), pt (A 13) (.inl (0, 9, .inl (fun i => nI ((upN ct 2 ((ct 2 + 1) % 2 ^ 16)) i)))), row (A 14) 64 (lat 64 lo 68), row (A 16) 253 p, row b 253 p] h := stars_ixn hL 5 rfl [1, 2, 0, 3, 4] (by decide) rfl
        exact e_vret dX1_keepReply_73 rfl (by omega) (by omega) (⟨_, ⟨rfl, rfl⟩, by rw [krC, if_neg (fun z => by rw [z] at k4; exact k4 rfl), if_neg (by omega), krL, if_neg (fun z => by rw [z] at k4; exact k4 rfl), if_neg (by omega), if_pos (by omega), krR, if_neg (fun z => by rw [z] at k4; exact k4 rfl), krV, if_neg (fun z => by rw [z] at k4; exact k4 rfl)]; exact hL⟩)
    · have k35 := j_ne0_f (a := code) (by omega) c35
      refine e_aload_n 39 dX1_keepReply_38 rfl rfl ?_
      refine e_get 42 dX1_keepReply_39 rfl fl_X1_69_1 (stars_at _ 0 hL rfl) rfl ?_
      refine e_bipush 44 (v := (nI 64)) dX1_keepReply_42 rfl (by decide) ?_
      refine p_callV 47 hL [2, 0, 1, 3, 4] 5 rfl (by decide) (L1 := [row (A 14) 64 lo]) (L2 := [pt d (.inr (1, [.int (nI (v 0)), .int (nI (v 1)), .int (nI (v 2)), .ref (A 3), .ref (A 4), .ref (A 5), .ref (A 6), .ref (A 7), .int (nI (v 8)), .ref (A 9), .ref (A 10), .ref (A 11), .ref (A 12), .ref (A 13), .ref (A 14), .ref (A 15), .ref (A 16), .int (nI (v 2)), .int (nI (v 18)), .int (bI df)])), pt (A 13) (.inl (0, 9, .inl (fun i => nI (ct i)))), row (A 16) 253 p, row b 253 p]) rfl row_O 2 rfl dX1_keepReply_44 rfl cv_X1_110 k_X4_addLatest rfl rfl (Nat.le_of_ble_eq_true rfl) ⟨by decide, by omega, by omega⟩ (fun r1 L1 h q hL => ?_)
      obtain ⟨rfl, rfl⟩ := q
      have hL : stars [row (A 14) 64 (lat 64 lo 64), pt d (.inr (1, [.int (nI (v 0)), .int (nI (v 1)), .int (nI (v 2)), .ref (A 3), .ref (A 4), .ref (A 5), .ref (A 6), .ref (A 7), .int (nI (v 8)), .ref (A 9), .ref (A 10), .ref (A 11), .ref (A 12), .ref (A 13), .ref (A 14), .ref (A 15), .ref (A 16), .int (nI (v 2)), .int (nI (v 18)), .int (bI df)])), pt (A 13) (.inl (0, 9, .inl (fun i => nI (ct i)))), row (A 16) 253 p, row b 253 p] h := hL
      have hL : stars [pt d (.inr (1, [.int (nI (v 0)), .int (nI (v 1)), .int (nI (v 2)), .ref (A 3), .ref (A 4), .ref (A 5), .ref (A 6), .ref (A 7), .int (nI (v 8)), .ref (A 9), .ref (A 10), .ref (A 11), .ref (A 12), .ref (A 13), .ref (A 14), .ref (A 15), .ref (A 16), .int (nI (v 2)), .int (nI (v 18)), .int (bI df)])), pt (A 13) (.inl (0, 9, .inl (fun i => nI (ct i)))), row (A 14) 64 (lat 64 lo 64), row (A 16) 253 p, row b 253 p] h := stars_ixn hL 5 rfl [1, 2, 0, 3, 4] (by decide) rfl
      exact e_vret dX1_keepReply_47 rfl (by omega) (by omega) (⟨_, ⟨rfl, rfl⟩, by rw [krC, if_neg (fun z => by rw [z] at k4; exact k4 rfl), if_pos (by omega), krL, if_neg (fun z => by rw [z] at k4; exact k4 rfl), if_pos (by omega), krR, if_neg (fun z => by rw [z] at k4; exact k4 rfl), krV, if_neg (fun z => by rw [z] at k4; exact k4 rfl)]; exact hL⟩)
  · have k4 := j_ne0_f (a := p.length) (by omega) c4
    refine e_aload_n 8 dX1_keepReply_7 rfl rfl ?_
    refine e_iconst 9 (v := (nI 4)) dX1_keepReply_8 rfl (by decide) ?_
    refine p_callV 12 hL [0, 1, 2, 3, 4] 5 rfl (by decide) (L1 := [pt d (.inr (1, [.int (nI (v 0)), .int (nI (v 1)), .int (nI (v 2)), .ref (A 3), .ref (A 4), .ref (A 5), .ref (A 6), .ref (A 7), .int (nI (v 8)), .ref (A 9), .ref (A 10), .ref (A 11), .ref (A 12), .ref (A 13), .ref (A 14), .ref (A 15), .ref (A 16), .int (nI (v 17)), .int (nI (v 18)), .int (bI df)])), pt (A 13) (.inl (0, 9, .inl (fun i => nI (ct i))))]) (L2 := [row (A 14) 64 lo, row (A 16) 253 rp, row b 253 p]) rfl isO_pt 0 rfl dX1_keepReply_9 rfl cv_X1_104 (k_X1_count (A := A) (v := v) (df := df) (ct := ct) (by decide) (hct _ (by decide))) rfl rfl (Nat.le_of_ble_eq_true rfl) ⟨by decide, by omega, by omega⟩ (fun r1 L1 h q hL => ?_)
    obtain ⟨rfl, rfl⟩ := q
    have hL : stars [pt d (.inr (1, [.int (nI (v 0)), .int (nI (v 1)), .int (nI (v 2)), .ref (A 3), .ref (A 4), .ref (A 5), .ref (A 6), .ref (A 7), .int (nI (v 8)), .ref (A 9), .ref (A 10), .ref (A 11), .ref (A 12), .ref (A 13), .ref (A 14), .ref (A 15), .ref (A 16), .int (nI (v 17)), .int (nI (v 18)), .int (bI df)])), pt (A 13) (.inl (0, 9, .inl (fun i => nI ((upN ct 4 ((ct 4 + 1) % 2 ^ 16)) i)))), row (A 14) 64 lo, row (A 16) 253 rp, row b 253 p] h := hL
    exact e_vret dX1_keepReply_12 rfl (by omega) (by omega) (⟨_, ⟨rfl, rfl⟩, by rw [krC, krL, krR, krV, if_pos (List.length_eq_zero_iff.mp k4), if_pos (List.length_eq_zero_iff.mp k4), if_pos (List.length_eq_zero_iff.mp k4), if_pos (List.length_eq_zero_iff.mp k4)]; exact hL⟩)
