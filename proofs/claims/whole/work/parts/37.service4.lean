/-! Service: files -/
def rfV (M : List (Nat × List Nat)) (q : List Nat) (i : Nat) : List Nat := match ixM M (nI (wd q (i + 1))) with
  | none => []
  | some k => rwM M k
theorem rfV_s {M : List (Nat × List Nat)} {q : List Nat} {i k : Nat} (h : ixM M (nI (wd q (i + 1))) = some k) : rfV M q i = rwM M k := by rw [rfV, h]
def rfP (r q : List Nat) (i m : Nat) : List Nat := [1 + 2 * wd q (i + 5)] ++ [6] ++ (List.range m).flatMap (fun k => w2 (r.getD (wd q (i + 3) + k) 0))
theorem rfP_succ {r q : List Nat} {i m : Nat} : rfP r q i m ++ w2 (r.getD (wd q (i + 3) + m) 0) = rfP r q i (m + 1) := by
  rw [rfP, rfP, List.range_succ, List.flatMap_append, List.flatMap_singleton, ← List.append_assoc]
theorem rfP_len {r q : List Nat} {i : Nat} : ∀ {m : Nat}, (rfP r q i m).length = 2 + 2 * m
  | 0 => rfl
  | m + 1 => by rw [← rfP_succ, List.length_append, rfP_len, w2_len]; omega
def rfR (M : List (Nat × List Nat)) (q : List Nat) : Nat → List Nat
  | 0 => [20] ++ [0]
  | j + 1 => rfR M q j ++ rfP (rfV M q (2 + 7 * j)) q (2 + 7 * j) (wd q (2 + 7 * j + 5))
theorem rfR_len {M : List (Nat × List Nat)} {q : List Nat} : ∀ (j : Nat), (rfR M q j).length = rdS q j
  | 0 => rfl
  | j + 1 => by rw [rfR, List.length_append, rfR_len j, rfP_len, rdS]
theorem rdS_mono {q : List Nat} : ∀ {j T : Nat}, j ≤ T → rdS q j ≤ rdS q T := by
  intro j T h
  induction h with
  | refl => exact Nat.le_refl _
  | step _ ih => exact Nat.le_trans ih (Nat.le_add_right _ _)
def okM (B : Nat) (M : List (Nat × List Nat)) : Prop := ∀ e ∈ M, ∀ x ∈ e.2, x < B
theorem okM_at {B : Nat} {M : List (Nat × List Nat)} {i : Nat} (h : okM B M) : ∀ x ∈ rwM M i, x < B := by
  intro x hx
  by_cases hi : i < M.length
  · have e : M.getD i (0, []) = M[i] := by simp [List.getD, hi]
    rw [show rwM M i = (M.getD i (0, [])).2 from rfl, e] at hx
    exact h _ (List.getElem_mem hi) x hx
  · have e : M.getD i (0, []) = (0, []) := by simp [List.getD, Nat.le_of_not_lt hi]
    rw [show rwM M i = (M.getD i (0, [])).2 from rfl, e] at hx
    cases hx
theorem okM_st {B : Nat} {M : List (Nat × List Nat)} {i : Nat} {r : List Nat} (h : okM B M) (hr : ∀ x ∈ r, x < B) : okM B (stM M i r) := by
  intro e he
  rcases List.mem_or_eq_of_mem_set he with z | z
  · exact h e z
  · rw [z]; exact hr
def wvF (q : List Nat) (f p : Nat) (r : List Nat) : Nat → List Nat
  | 0 => r
  | j + 1 => (wvF q f p r j).set (f + j) (wd q (p + 2 * j))
theorem wvF_len {q r : List Nat} {f p : Nat} : ∀ j : Nat, (wvF q f p r j).length = r.length
  | 0 => rfl
  | j + 1 => by rw [wvF, List.length_set, wvF_len j]
theorem wvF_lt {q r : List Nat} {f p : Nat} (hq : ∀ x ∈ q, x < 256) (h : ∀ y ∈ r, y < 65536) : ∀ i, ∀ y ∈ wvF q f p r i, y < 65536
  | 0 => h
  | i + 1 => set_lt (wvF_lt hq h i) (wd_lt hq)
def wfS (q : List Nat) (M : List (Nat × List Nat)) (i : Nat) : List (Nat × List Nat) := match ixM M (nI (wd q (i + 1))) with
  | none => M
  | some k => stM M k (wvF q (wd q (i + 3)) (i + 7) (rwM M k) (wd q (i + 5)))
def wfF (q : List Nat) : Nat → Nat → List (Nat × List Nat) → List (Nat × List Nat)
  | 0, _, M => M
  | t + 1, i, M => if i < q.length then wfF q t (i + 7 + 2 * wd q (i + 5)) (wfS q M i) else M
theorem wpE_ge {q : List Nat} : ∀ (t i : Nat), i ≤ wpE q t i
  | 0, i => Nat.le_refl _
  | t + 1, i => by
    rw [wpE]
    by_cases e : i + 7 ≤ q.length
    · rw [if_pos e]; exact Nat.le_trans (Nat.le_add_right _ _) (wpE_ge t _)
    · rw [if_neg e]; exact Nat.le_refl _
theorem wpE_in {q : List Nat} {t i : Nat} (h : wpE q (t + 1) i = q.length) (hi : i < q.length) : i + 7 + 2 * wd q (i + 5) ≤ q.length ∧ wpE q t (i + 7 + 2 * wd q (i + 5)) = q.length := by
  rw [wpE] at h
  by_cases e : i + 7 ≤ q.length
  · rw [if_pos e] at h
    have h2 := wpE_ge (q := q) t (i + (7 + 2 * wd q (i + 5)))
    rw [Nat.add_assoc]
    exact ⟨by omega, h⟩
  · rw [if_neg e] at h; omega
theorem wfS_ok {q : List Nat} {M : List (Nat × List Nat)} {i : Nat} (hq : ∀ x ∈ q, x < 256) (h : okM 65536 M) : okM 65536 (wfS q M i) := by
  rw [wfS]
  cases ixM M (nI (wd q (i + 1))) with
  | none => exact h
  | some k => exact okM_st h (wvF_lt hq (okM_at h) _)
theorem wfF_ok {q : List Nat} (hq : ∀ x ∈ q, x < 256) : ∀ (t i : Nat) (M : List (Nat × List Nat)), okM 65536 M → okM 65536 (wfF q t i M)
  | 0, _, _, h => h
  | t + 1, i, M, h => by
    rw [wfF]
    by_cases e : i < q.length
    · rw [if_pos e]; exact wfF_ok hq t _ _ (wfS_ok hq h)
    · rw [if_neg e]; exact h
set_option maxRecDepth 20000 in
set_option maxHeartbeats 2000000 in
theorem l_X6_readFiles_in {d b cb b2 c i : Nat} {A v : Nat → Nat} {df : Bool} {q r s0 : List Nat} {R : sA} {Q : Option Value → eH → Prop} (hq : ∀ x ∈ q, x < 256) (hr : ∀ x ∈ r, x < 65536) (hi9 : i < 1000) (hs : s0.length + 2 + 2 * wd q (i + 5) ≤ 253) (kk : ∀ h, stars [row c 120 r, R, pt d (.inr (1, [.int (nI (v 0)), .int (nI (v 1)), .int (nI (v 2)), .ref (A 3), .ref (A 4), .ref (A 5), .ref (A 6), .ref (A 7), .int (nI (v 8)), .ref (A 9), .ref (A 10), .ref (A 11), .ref (A 12), .ref (A 13), .ref (A 14), .ref (A 15), .ref (A 16), .int (nI (v 17)), .int (nI (v 18)), .int (bI df)])), row b cb q, row b2 253 (s0 ++ rfP r q i (wd q (i + 5)))] h → EE mX6_readFiles 1 40 0 0 Q 109 [some (.ref d), some (.ref b), some (.ref b2), some (.int (nI i)), some (.ref c), some (.int (nI (wd q (i + 3)))), some (.int (nI (wd q (i + 5)))), some (.int (nI (wd q (i + 5))))] [] h 0 0) : ∀ (n : Nat) (m : Nat) (h : eH), wd q (i + 5) - m < n → m ≤ wd q (i + 5) → stars [row c 120 r, R, pt d (.inr (1, [.int (nI (v 0)), .int (nI (v 1)), .int (nI (v 2)), .ref (A 3), .ref (A 4), .ref (A 5), .ref (A 6), .ref (A 7), .int (nI (v 8)), .ref (A 9), .ref (A 10), .ref (A 11), .ref (A 12), .ref (A 13), .ref (A 14), .ref (A 15), .ref (A 16), .int (nI (v 17)), .int (nI (v 18)), .int (bI df)])), row b cb q, row b2 253 (s0 ++ rfP r q i m)] h → EE mX6_readFiles 1 40 0 0 (Q) 77 [some (.ref d), some (.ref b), some (.ref b2), some (.int (nI i)), some (.ref c), some (.int (nI (wd q (i + 3)))), some (.int (nI (wd q (i + 5)))), some (.int (nI m))] [] h 0 0 := by
  intro n
  induction n with
  | zero => intro m h hlt hm hL; exact absurd hlt (by omega)
  | succ n ih =>
    intro m h hlt hm hL
    have hw3 := wd_lt (k := i + 3) hq
    have hv9 : r.getD (wd q (i + 3) + m) 0 < 65536 := gd_lt hr (by decide)
    refine e_iload 79 dX6_readFiles_77 rfl rfl ?_
    refine e_iload 81 dX6_readFiles_79 rfl rfl ?_
    refine e_icmp_ge 109 84 dX6_readFiles_81 rfl rfl (fun c81 => ?_) (fun c81 => ?_)
    · have k81 := j_ge_t (a := m) (b := (wd q (i + 5))) (by omega) (by omega) c81
      obtain rfl : m = wd q (i + 5) := by omega
      exact kk h hL
    · have k81 := j_ge_f (a := m) (b := (wd q (i + 5))) (by omega) (by omega) c81
      refine e_aload 86 dX6_readFiles_84 rfl rfl ?_
      refine e_ifnull 89 dX6_readFiles_86 rfl ?_
      refine e_aload_n 90 dX6_readFiles_89 rfl rfl ?_
      refine e_aload 92 dX6_readFiles_90 rfl rfl ?_
      refine e_iload 94 dX6_readFiles_92 rfl rfl ?_
      refine e_iload 96 dX6_readFiles_94 rfl rfl ?_
      refine e_iadd 97 (v := (nI ((wd q (i + 3)) + m))) dX6_readFiles_96 rfl (nI_add (wd q (i + 3)) m) ?_
      refine p_callV 100 hL [0, 1, 2, 3, 4] 5 rfl (by decide) (L1 := [row c 120 r]) (L2 := [R, pt d (.inr (1, [.int (nI (v 0)), .int (nI (v 1)), .int (nI (v 2)), .ref (A 3), .ref (A 4), .ref (A 5), .ref (A 6), .ref (A 7), .int (nI (v 8)), .ref (A 9), .ref (A 10), .ref (A 11), .ref (A 12), .ref (A 13), .ref (A 14), .ref (A 15), .ref (A 16), .int (nI (v 17)), .int (nI (v 18)), .int (bI df)])), row b cb q, row b2 253 (s0 ++ rfP r q i m)]) rfl row_O 0 rfl dX6_readFiles_97 rfl cv_X6_36 (k_X4_at (by omega)) rfl rfl (Nat.le_of_ble_eq_true rfl) ⟨by decide, by omega, by omega⟩ (fun r1 L1 h q hL => ?_)
      obtain ⟨rfl, rfl⟩ := q
      have hL : stars [row c 120 r, R, pt d (.inr (1, [.int (nI (v 0)), .int (nI (v 1)), .int (nI (v 2)), .ref (A 3), .ref (A 4), .ref (A 5), .ref (A 6), .ref (A 7), .int (nI (v 8)), .ref (A 9), .ref (A 10), .ref (A 11), .ref (A 12), .ref (A 13), .ref (A 14), .ref (A 15), .ref (A 16), .int (nI (v 17)), .int (nI (v 18)), .int (bI df)])), row b cb q, row b2 253 (s0 ++ rfP r q i m)] h := hL
      refine p_callV 103 hL [4, 0, 1, 2, 3] 5 rfl (by decide) (L1 := [row b2 253 (s0 ++ rfP r q i m)]) (L2 := [row c 120 r, R, pt d (.inr (1, [.int (nI (v 0)), .int (nI (v 1)), .int (nI (v 2)), .ref (A 3), .ref (A 4), .ref (A 5), .ref (A 6), .ref (A 7), .int (nI (v 8)), .ref (A 9), .ref (A 10), .ref (A 11), .ref (A 12), .ref (A 13), .ref (A 14), .ref (A 15), .ref (A 16), .int (nI (v 17)), .int (nI (v 18)), .int (bI df)])), row b cb q]) rfl row_O 4 rfl dX6_readFiles_100 rfl cv_X6_160 (k_add2 (by omega) (by rw [List.length_append, rfP_len]; omega)) rfl rfl (Nat.le_of_ble_eq_true rfl) ⟨by decide, by omega, by omega⟩ (fun r1 L1 h q hL => ?_)
      obtain ⟨rfl, rfl⟩ := q
      have hL : stars [row b2 253 ((s0 ++ rfP r q i m) ++ w2 (r.getD ((wd q (i + 3)) + m) 0)), row c 120 r, R, pt d (.inr (1, [.int (nI (v 0)), .int (nI (v 1)), .int (nI (v 2)), .ref (A 3), .ref (A 4), .ref (A 5), .ref (A 6), .ref (A 7), .int (nI (v 8)), .ref (A 9), .ref (A 10), .ref (A 11), .ref (A 12), .ref (A 13), .ref (A 14), .ref (A 15), .ref (A 16), .int (nI (v 17)), .int (nI (v 18)), .int (bI df)])), row b cb q] h := hL
      have hL : stars [row c 120 r, R, pt d (.inr (1, [.int (nI (v 0)), .int (nI (v 1)), .int (nI (v 2)), .ref (A 3), .ref (A 4), .ref (A 5), .ref (A 6), .ref (A 7), .int (nI (v 8)), .ref (A 9), .ref (A 10), .ref (A 11), .ref (A 12), .ref (A 13), .ref (A 14), .ref (A 15), .ref (A 16), .int (nI (v 17)), .int (nI (v 18)), .int (bI df)])), row b cb q, row b2 253 ((s0 ++ rfP r q i m) ++ w2 (r.getD ((wd q (i + 3)) + m) 0))] h := stars_ixn hL 5 rfl [1, 2, 3, 4, 0] (by decide) rfl
      refine e_iinc 106 (v := (nI (m + 1))) (ls' := [some (.ref d), some (.ref b), some (.ref b2), some (.int (nI i)), some (.ref c), some (.int (nI (wd q (i + 3)))), some (.int (nI (wd q (i + 5)))), some (.int (nI (m + 1)))]) dX6_readFiles_103 rfl rfl (nI_add m 1) (by decide) rfl ?_
      refine e_goto 77 dX6_readFiles_106 rfl ?_
      rw [List.append_assoc, rfP_succ] at hL
      exact ih (m + 1) h (by omega) (by omega) hL
set_option maxRecDepth 20000 in
set_option maxHeartbeats 2000000 in
theorem l_X6_readFiles {d b cb b2 T : Nat} {A v : Nat → Nat} {df : Bool} {M : List (Nat × List Nat)} {q : List Nat} (hq : ∀ x ∈ q, x < 256) (hM : okM 65536 M) (h7 : q.length = 2 + 7 * T) (hS : rdS q T ≤ 253) (hl9 : q.length ≤ 253) (hpt : ∀ j, j < T → fpF M q (2 + 7 * j) = true) : ∀ (n : Nat) (j : Nat) (h : eH), T - j < n → j ≤ T → stars [pt d (.inr (1, [.int (nI (v 0)), .int (nI (v 1)), .int (nI (v 2)), .ref (A 3), .ref (A 4), .ref (A 5), .ref (A 6), .ref (A 7), .int (nI (v 8)), .ref (A 9), .ref (A 10), .ref (A 11), .ref (A 12), .ref (A 13), .ref (A 14), .ref (A 15), .ref (A 16), .int (nI (v 17)), .int (nI (v 18)), .int (bI df)])), shf (A 9) 4 120 M, row b cb q, row b2 253 (rfR M q j)] h → EE mX6_readFiles 1 40 0 0 (fun r h' => ∃ L', (r = none ∧ L' = [dvO d A v df, shf (A 9) 4 120 M, row b cb q, row b2 253 ((rfR M q T).set 1 (rdS q T - 2))]) ∧ stars L' h') 13 [some (.ref d), some (.ref b), some (.ref b2), some (.int (nI (2 + 7 * j))), none, none, none, none] [] h 0 0 := by
  intro n
  induction n with
  | zero => intro j h hlt hj hL; exact absurd hlt (by omega)
  | succ n ih =>
    intro j h hlt hj hL
    have hw1 := wd_lt (k := 2 + 7 * j + 1) hq
    have hw3 := wd_lt (k := 2 + 7 * j + 3) hq
    have hw5 := wd_lt (k := 2 + 7 * j + 5) hq
    have hs1 := rdS_mono (q := q) (j := 0) (T := j) (by omega)
    have hs0 : rdS q 0 = 2 := rfl
    have hs2 : j < T → rdS q (j + 1) ≤ rdS q T := fun z => rdS_mono z
    have hs3 : rdS q (j + 1) = rdS q j + (2 + 2 * wd q (2 + 7 * j + 5)) := rfl
    have hs4 := rdS_mono (q := q) hj
    refine e_iload_n 14 dX6_readFiles_13 rfl rfl ?_
    refine e_bipush 16 (v := (nI 7)) dX6_readFiles_14 rfl (by decide) ?_
    refine e_iadd 17 (v := (nI ((2 + 7 * j) + 7))) dX6_readFiles_16 rfl (nI_add (2 + 7 * j) 7) ?_
    refine e_aload_n 18 dX6_readFiles_17 rfl rfl ?_
    obtain ⟨z18, y18⟩ := row_at _ 2 hL rfl
    refine e_get 21 dX6_readFiles_18 rfl fl_X6_104_4 y18 rfl ?_
    refine e_icmp_gt 115 24 dX6_readFiles_21 rfl rfl (fun c21 => ?_) (fun c21 => ?_)
    · have k21 := j_gt_t (a := ((2 + 7 * j) + 7)) (b := q.length) (by omega) (by omega) c21
      refine e_aload_n 116 dX6_readFiles_115 rfl rfl ?_
      refine e_iconst 117 (v := (nI 1)) dX6_readFiles_116 rfl (by decide) ?_
      refine e_aload_n 118 dX6_readFiles_117 rfl rfl ?_
      obtain ⟨z118, y118⟩ := row_at _ 3 hL rfl
      refine e_get 121 dX6_readFiles_118 rfl fl_X6_104_4 y118 rfl ?_
      refine e_iconst 122 (v := (nI 2)) dX6_readFiles_121 rfl (by decide) ?_
      refine e_isub 123 (v := (nI ((rfR M q j).length - 2))) dX6_readFiles_122 rfl (pk_sub (by rw [rfR_len]; omega)) ?_
      refine p_callV 126 hL [3, 0, 1, 2] 4 rfl (by decide) (L1 := [row b2 253 (rfR M q j)]) (L2 := [pt d (.inr (1, [.int (nI (v 0)), .int (nI (v 1)), .int (nI (v 2)), .ref (A 3), .ref (A 4), .ref (A 5), .ref (A 6), .ref (A 7), .int (nI (v 8)), .ref (A 9), .ref (A 10), .ref (A 11), .ref (A 12), .ref (A 13), .ref (A 14), .ref (A 15), .ref (A 16), .int (nI (v 17)), .int (nI (v 18)), .int (bI df)])), shf (A 9) 4 120 M, row b cb q]) rfl row_O 3 rfl dX6_readFiles_123 rfl cv_X6_208 (k_X4_change (by omega)) rfl rfl (Nat.le_of_ble_eq_true rfl) ⟨by decide, by omega, by omega⟩ (fun r1 L1 h q hL => ?_)
      obtain ⟨rfl, rfl⟩ := q
      have hL : stars [row b2 253 ((rfR M q j).set 1 ((rfR M q j).length - 2)), pt d (.inr (1, [.int (nI (v 0)), .int (nI (v 1)), .int (nI (v 2)), .ref (A 3), .ref (A 4), .ref (A 5), .ref (A 6), .ref (A 7), .int (nI (v 8)), .ref (A 9), .ref (A 10), .ref (A 11), .ref (A 12), .ref (A 13), .ref (A 14), .ref (A 15), .ref (A 16), .int (nI (v 17)), .int (nI (v 18)), .int (bI df)])), shf (A 9) 4 120 M, row b cb q] h := hL
      have hL : stars [pt d (.inr (1, [.int (nI (v 0)), .int (nI (v 1)), .int (nI (v 2)), .ref (A 3), .ref (A 4), .ref (A 5), .ref (A 6), .ref (A 7), .int (nI (v 8)), .ref (A 9), .ref (A 10), .ref (A 11), .ref (A 12), .ref (A 13), .ref (A 14), .ref (A 15), .ref (A 16), .int (nI (v 17)), .int (nI (v 18)), .int (bI df)])), shf (A 9) 4 120 M, row b cb q, row b2 253 ((rfR M q j).set 1 ((rfR M q j).length - 2))] h := stars_ixn hL 4 rfl [1, 2, 3, 0] (by decide) rfl
      exact e_vret dX6_readFiles_126 rfl (by omega) (by omega) (⟨_, ⟨rfl, rfl⟩, by rw [show j = T by omega, rfR_len] at hL; exact hL⟩)
    · have k21 := j_gt_f (a := ((2 + 7 * j) + 7)) (b := q.length) (by omega) (by omega) c21
      refine e_aload_n 25 dX6_readFiles_24 rfl rfl ?_
      refine e_get 28 dX6_readFiles_25 rfl fl_X6_107_1 (stars_at _ 0 hL rfl) rfl ?_
      refine e_aload_n 29 dX6_readFiles_28 rfl rfl ?_
      refine e_iload_n 30 dX6_readFiles_29 rfl rfl ?_
      refine e_iconst 31 (v := (nI 1)) dX6_readFiles_30 rfl (by decide) ?_
      refine e_iadd 32 (v := (nI ((2 + 7 * j) + 1))) dX6_readFiles_31 rfl (nI_add (2 + 7 * j) 1) ?_
      refine p_callV 35 hL [2, 0, 1, 3] 4 rfl (by decide) (L1 := [row b cb q]) (L2 := [pt d (.inr (1, [.int (nI (v 0)), .int (nI (v 1)), .int (nI (v 2)), .ref (A 3), .ref (A 4), .ref (A 5), .ref (A 6), .ref (A 7), .int (nI (v 8)), .ref (A 9), .ref (A 10), .ref (A 11), .ref (A 12), .ref (A 13), .ref (A 14), .ref (A 15), .ref (A 16), .int (nI (v 17)), .int (nI (v 18)), .int (bI df)])), shf (A 9) 4 120 M, row b2 253 (rfR M q j)]) rfl row_O 2 rfl dX6_readFiles_32 rfl cv_X6_54 (k_X4_word (by omega)) rfl rfl (Nat.le_of_ble_eq_true rfl) ⟨by decide, by omega, by omega⟩ (fun r1 L1 h q hL => ?_)
      obtain ⟨rfl, rfl⟩ := q
      have hL : stars [row b cb q, pt d (.inr (1, [.int (nI (v 0)), .int (nI (v 1)), .int (nI (v 2)), .ref (A 3), .ref (A 4), .ref (A 5), .ref (A 6), .ref (A 7), .int (nI (v 8)), .ref (A 9), .ref (A 10), .ref (A 11), .ref (A 12), .ref (A 13), .ref (A 14), .ref (A 15), .ref (A 16), .int (nI (v 17)), .int (nI (v 18)), .int (bI df)])), shf (A 9) 4 120 M, row b2 253 (rfR M q j)] h := hL
      have hL : stars [pt d (.inr (1, [.int (nI (v 0)), .int (nI (v 1)), .int (nI (v 2)), .ref (A 3), .ref (A 4), .ref (A 5), .ref (A 6), .ref (A 7), .int (nI (v 8)), .ref (A 9), .ref (A 10), .ref (A 11), .ref (A 12), .ref (A 13), .ref (A 14), .ref (A 15), .ref (A 16), .int (nI (v 17)), .int (nI (v 18)), .int (bI df)])), shf (A 9) 4 120 M, row b cb q, row b2 253 (rfR M q j)] h := stars_ixn hL 4 rfl [1, 2, 0, 3] (by decide) rfl
      have hL : stars [shf (A 9) 4 120 M, pt d (.inr (1, [.int (nI (v 0)), .int (nI (v 1)), .int (nI (v 2)), .ref (A 3), .ref (A 4), .ref (A 5), .ref (A 6), .ref (A 7), .int (nI (v 8)), .ref (A 9), .ref (A 10), .ref (A 11), .ref (A 12), .ref (A 13), .ref (A 14), .ref (A 15), .ref (A 16), .int (nI (v 17)), .int (nI (v 18)), .int (bI df)])), row b cb q, row b2 253 (rfR M q j)] h := stars_ixn hL 4 rfl [1, 0, 2, 3] (by decide) rfl
      obtain ⟨K35, C35, hM35, hL⟩ := shf_o hL
      refine p_callV 38 hL [0, 1, 2, 3, 4] 5 rfl (by decide) (L1 := [shB (A 9) 4 120 K35]) (L2 := [rws 120 K35 C35, pt d (.inr (1, [.int (nI (v 0)), .int (nI (v 1)), .int (nI (v 2)), .ref (A 3), .ref (A 4), .ref (A 5), .ref (A 6), .ref (A 7), .int (nI (v 8)), .ref (A 9), .ref (A 10), .ref (A 11), .ref (A 12), .ref (A 13), .ref (A 14), .ref (A 15), .ref (A 16), .int (nI (v 17)), .int (nI (v 18)), .int (bI df)])), row b cb q, row b2 253 (rfR M q j)]) rfl shB_O 0 rfl dX6_readFiles_35 rfl cv_X6_98 k_X8_find rfl rfl (Nat.le_of_ble_eq_true rfl) ⟨by decide, by omega, by omega⟩ (fun r1 L1 h q hL => ?_)
      obtain ⟨rfl, rfl⟩ := q
      have hL : stars [shB (A 9) 4 120 K35, rws 120 K35 C35, pt d (.inr (1, [.int (nI (v 0)), .int (nI (v 1)), .int (nI (v 2)), .ref (A 3), .ref (A 4), .ref (A 5), .ref (A 6), .ref (A 7), .int (nI (v 8)), .ref (A 9), .ref (A 10), .ref (A 11), .ref (A 12), .ref (A 13), .ref (A 14), .ref (A 15), .ref (A 16), .int (nI (v 17)), .int (nI (v 18)), .int (bI df)])), row b cb q, row b2 253 (rfR M q j)] h := hL
      rcases shf_r (nI (wd q ((2 + 7 * j) + 1))) hM35 hL with ⟨hx35, hk35, hL⟩ | ⟨i35, a35, R35, hx35, hi35, hk35, hL, hb35⟩
      · rw [hk35]
        have hf9 := hpt j (by omega)
        rw [fpF_n hx35] at hf9
        cases hf9
      · rw [hk35]
        have hle35 := row_len _ 0 hL rfl
        refine e_astore 40 (ls' := [some (.ref d), some (.ref b), some (.ref b2), some (.int (nI (2 + 7 * j))), some (.ref a35), none, none, none]) dX6_readFiles_38 rfl (by decide) rfl ?_
        refine e_aload_n 41 dX6_readFiles_40 rfl rfl ?_
        refine e_iload_n 42 dX6_readFiles_41 rfl rfl ?_
        refine e_iconst 43 (v := (nI 3)) dX6_readFiles_42 rfl (by decide) ?_
        refine e_iadd 44 (v := (nI ((2 + 7 * j) + 3))) dX6_readFiles_43 rfl (nI_add (2 + 7 * j) 3) ?_
        refine p_callV 47 hL [3, 0, 1, 2, 4] 5 rfl (by decide) (L1 := [row b cb q]) (L2 := [row a35 120 (rwM M i35), R35, pt d (.inr (1, [.int (nI (v 0)), .int (nI (v 1)), .int (nI (v 2)), .ref (A 3), .ref (A 4), .ref (A 5), .ref (A 6), .ref (A 7), .int (nI (v 8)), .ref (A 9), .ref (A 10), .ref (A 11), .ref (A 12), .ref (A 13), .ref (A 14), .ref (A 15), .ref (A 16), .int (nI (v 17)), .int (nI (v 18)), .int (bI df)])), row b2 253 (rfR M q j)]) rfl row_O 3 rfl dX6_readFiles_44 rfl cv_X6_54 (k_X4_word (by omega)) rfl rfl (Nat.le_of_ble_eq_true rfl) ⟨by decide, by omega, by omega⟩ (fun r1 L1 h q hL => ?_)
        obtain ⟨rfl, rfl⟩ := q
        have hL : stars [row b cb q, row a35 120 (rwM M i35), R35, pt d (.inr (1, [.int (nI (v 0)), .int (nI (v 1)), .int (nI (v 2)), .ref (A 3), .ref (A 4), .ref (A 5), .ref (A 6), .ref (A 7), .int (nI (v 8)), .ref (A 9), .ref (A 10), .ref (A 11), .ref (A 12), .ref (A 13), .ref (A 14), .ref (A 15), .ref (A 16), .int (nI (v 17)), .int (nI (v 18)), .int (bI df)])), row b2 253 (rfR M q j)] h := hL
        have hL : stars [row a35 120 (rwM M i35), R35, pt d (.inr (1, [.int (nI (v 0)), .int (nI (v 1)), .int (nI (v 2)), .ref (A 3), .ref (A 4), .ref (A 5), .ref (A 6), .ref (A 7), .int (nI (v 8)), .ref (A 9), .ref (A 10), .ref (A 11), .ref (A 12), .ref (A 13), .ref (A 14), .ref (A 15), .ref (A 16), .int (nI (v 17)), .int (nI (v 18)), .int (bI df)])), row b cb q, row b2 253 (rfR M q j)] h := stars_ixn hL 5 rfl [1, 2, 3, 0, 4] (by decide) rfl
        refine e_istore 49 (ls' := [some (.ref d), some (.ref b), some (.ref b2), some (.int (nI (2 + 7 * j))), some (.ref a35), some (.int (nI (wd q ((2 + 7 * j) + 3)))), none, none]) dX6_readFiles_47 rfl (by decide) rfl ?_
        refine e_aload_n 50 dX6_readFiles_49 rfl rfl ?_
        refine e_iload_n 51 dX6_readFiles_50 rfl rfl ?_
        refine e_iconst 52 (v := (nI 5)) dX6_readFiles_51 rfl (by decide) ?_
        refine e_iadd 53 (v := (nI ((2 + 7 * j) + 5))) dX6_readFiles_52 rfl (nI_add (2 + 7 * j) 5) ?_
        refine p_callV 56 hL [3, 0, 1, 2, 4] 5 rfl (by decide) (L1 := [row b cb q]) (L2 := [row a35 120 (rwM M i35), R35, pt d (.inr (1, [.int (nI (v 0)), .int (nI (v 1)), .int (nI (v 2)), .ref (A 3), .ref (A 4), .ref (A 5), .ref (A 6), .ref (A 7), .int (nI (v 8)), .ref (A 9), .ref (A 10), .ref (A 11), .ref (A 12), .ref (A 13), .ref (A 14), .ref (A 15), .ref (A 16), .int (nI (v 17)), .int (nI (v 18)), .int (bI df)])), row b2 253 (rfR M q j)]) rfl row_O 3 rfl dX6_readFiles_53 rfl cv_X6_54 (k_X4_word (by omega)) rfl rfl (Nat.le_of_ble_eq_true rfl) ⟨by decide, by omega, by omega⟩ (fun r1 L1 h q hL => ?_)
        obtain ⟨rfl, rfl⟩ := q
        have hL : stars [row b cb q, row a35 120 (rwM M i35), R35, pt d (.inr (1, [.int (nI (v 0)), .int (nI (v 1)), .int (nI (v 2)), .ref (A 3), .ref (A 4), .ref (A 5), .ref (A 6), .ref (A 7), .int (nI (v 8)), .ref (A 9), .ref (A 10), .ref (A 11), .ref (A 12), .ref (A 13), .ref (A 14), .ref (A 15), .ref (A 16), .int (nI (v 17)), .int (nI (v 18)), .int (bI df)])), row b2 253 (rfR M q j)] h := hL
        have hL : stars [row a35 120 (rwM M i35), R35, pt d (.inr (1, [.int (nI (v 0)), .int (nI (v 1)), .int (nI (v 2)), .ref (A 3), .ref (A 4), .ref (A 5), .ref (A 6), .ref (A 7), .int (nI (v 8)), .ref (A 9), .ref (A 10), .ref (A 11), .ref (A 12), .ref (A 13), .ref (A 14), .ref (A 15), .ref (A 16), .int (nI (v 17)), .int (nI (v 18)), .int (bI df)])), row b cb q, row b2 253 (rfR M q j)] h := stars_ixn hL 5 rfl [1, 2, 3, 0, 4] (by decide) rfl
        refine e_istore 58 (ls' := [some (.ref d), some (.ref b), some (.ref b2), some (.int (nI (2 + 7 * j))), some (.ref a35), some (.int (nI (wd q ((2 + 7 * j) + 3)))), some (.int (nI (wd q ((2 + 7 * j) + 5)))), none]) dX6_readFiles_56 rfl (by decide) rfl ?_
        refine e_aload_n 59 dX6_readFiles_58 rfl rfl ?_
        refine e_iconst 60 (v := (nI 1)) dX6_readFiles_59 rfl (by decide) ?_
        refine e_iconst 61 (v := (nI 2)) dX6_readFiles_60 rfl (by decide) ?_
        refine e_iload 63 dX6_readFiles_61 rfl rfl ?_
        refine e_imul 64 (v := (nI (2 * (wd q ((2 + 7 * j) + 5))))) dX6_readFiles_63 rfl (pk_mul 2 (wd q ((2 + 7 * j) + 5))) ?_
        refine e_iadd 65 (v := (nI (1 + (2 * (wd q ((2 + 7 * j) + 5)))))) dX6_readFiles_64 rfl (nI_add 1 (2 * (wd q ((2 + 7 * j) + 5)))) ?_
        refine p_callV 68 hL [4, 0, 1, 2, 3] 5 rfl (by decide) (L1 := [row b2 253 (rfR M q j)]) (L2 := [row a35 120 (rwM M i35), R35, pt d (.inr (1, [.int (nI (v 0)), .int (nI (v 1)), .int (nI (v 2)), .ref (A 3), .ref (A 4), .ref (A 5), .ref (A 6), .ref (A 7), .int (nI (v 8)), .ref (A 9), .ref (A 10), .ref (A 11), .ref (A 12), .ref (A 13), .ref (A 14), .ref (A 15), .ref (A 16), .int (nI (v 17)), .int (nI (v 18)), .int (bI df)])), row b cb q]) rfl row_O 4 rfl dX6_readFiles_65 rfl cv_X6_40 (k_add1 (by simp only [List.length_append, List.length_cons, List.length_nil, rfR_len]; omega)) rfl rfl (Nat.le_of_ble_eq_true rfl) ⟨by decide, by omega, by omega⟩ (fun r1 L1 h q hL => ?_)
        obtain ⟨rfl, rfl⟩ := q
        have hL : stars [row b2 253 ((rfR M q j) ++ [(1 + (2 * (wd q ((2 + 7 * j) + 5))))]), row a35 120 (rwM M i35), R35, pt d (.inr (1, [.int (nI (v 0)), .int (nI (v 1)), .int (nI (v 2)), .ref (A 3), .ref (A 4), .ref (A 5), .ref (A 6), .ref (A 7), .int (nI (v 8)), .ref (A 9), .ref (A 10), .ref (A 11), .ref (A 12), .ref (A 13), .ref (A 14), .ref (A 15), .ref (A 16), .int (nI (v 17)), .int (nI (v 18)), .int (bI df)])), row b cb q] h := hL
        have hL : stars [row a35 120 (rwM M i35), R35, pt d (.inr (1, [.int (nI (v 0)), .int (nI (v 1)), .int (nI (v 2)), .ref (A 3), .ref (A 4), .ref (A 5), .ref (A 6), .ref (A 7), .int (nI (v 8)), .ref (A 9), .ref (A 10), .ref (A 11), .ref (A 12), .ref (A 13), .ref (A 14), .ref (A 15), .ref (A 16), .int (nI (v 17)), .int (nI (v 18)), .int (bI df)])), row b cb q, row b2 253 ((rfR M q j) ++ [(1 + (2 * (wd q ((2 + 7 * j) + 5))))])] h := stars_ixn hL 5 rfl [1, 2, 3, 4, 0] (by decide) rfl
        refine e_aload_n 69 dX6_readFiles_68 rfl rfl ?_
        refine e_bipush 71 (v := (nI 6)) dX6_readFiles_69 rfl (by decide) ?_
        refine p_callV 74 hL [4, 0, 1, 2, 3] 5 rfl (by decide) (L1 := [row b2 253 ((rfR M q j) ++ [(1 + (2 * (wd q ((2 + 7 * j) + 5))))])]) (L2 := [row a35 120 (rwM M i35), R35, pt d (.inr (1, [.int (nI (v 0)), .int (nI (v 1)), .int (nI (v 2)), .ref (A 3), .ref (A 4), .ref (A 5), .ref (A 6), .ref (A 7), .int (nI (v 8)), .ref (A 9), .ref (A 10), .ref (A 11), .ref (A 12), .ref (A 13), .ref (A 14), .ref (A 15), .ref (A 16), .int (nI (v 17)), .int (nI (v 18)), .int (bI df)])), row b cb q]) rfl row_O 4 rfl dX6_readFiles_71 rfl cv_X6_40 (k_add1 (by simp only [List.length_append, List.length_cons, List.length_nil, rfR_len]; omega)) rfl rfl (Nat.le_of_ble_eq_true rfl) ⟨by decide, by omega, by omega⟩ (fun r1 L1 h q hL => ?_)
        obtain ⟨rfl, rfl⟩ := q
        have hL : stars [row b2 253 (((rfR M q j) ++ [(1 + (2 * (wd q ((2 + 7 * j) + 5))))]) ++ [6]), row a35 120 (rwM M i35), R35, pt d (.inr (1, [.int (nI (v 0)), .int (nI (v 1)), .int (nI (v 2)), .ref (A 3), .ref (A 4), .ref (A 5), .ref (A 6), .ref (A 7), .int (nI (v 8)), .ref (A 9), .ref (A 10), .ref (A 11), .ref (A 12), .ref (A 13), .ref (A 14), .ref (A 15), .ref (A 16), .int (nI (v 17)), .int (nI (v 18)), .int (bI df)])), row b cb q] h := hL
        have hL : stars [row a35 120 (rwM M i35), R35, pt d (.inr (1, [.int (nI (v 0)), .int (nI (v 1)), .int (nI (v 2)), .ref (A 3), .ref (A 4), .ref (A 5), .ref (A 6), .ref (A 7), .int (nI (v 8)), .ref (A 9), .ref (A 10), .ref (A 11), .ref (A 12), .ref (A 13), .ref (A 14), .ref (A 15), .ref (A 16), .int (nI (v 17)), .int (nI (v 18)), .int (bI df)])), row b cb q, row b2 253 (((rfR M q j) ++ [(1 + (2 * (wd q ((2 + 7 * j) + 5))))]) ++ [6])] h := stars_ixn hL 5 rfl [1, 2, 3, 4, 0] (by decide) rfl
        refine e_iconst 75 (v := (nI 0)) dX6_readFiles_74 rfl (by decide) ?_
        refine e_istore 77 (ls' := [some (.ref d), some (.ref b), some (.ref b2), some (.int (nI (2 + 7 * j))), some (.ref a35), some (.int (nI (wd q ((2 + 7 * j) + 3)))), some (.int (nI (wd q ((2 + 7 * j) + 5)))), some (.int (nI 0))]) dX6_readFiles_75 rfl (by decide) rfl ?_
        rw [show (rfR M q j ++ [1 + 2 * wd q (2 + 7 * j + 5)]) ++ [6] = rfR M q j ++ rfP (rwM M i35) q (2 + 7 * j) 0 by simp only [rfP, List.range_zero, List.flatMap_nil, List.append_nil, List.append_assoc]] at hL
        refine l_X6_readFiles_in hq (okM_at hM) (by omega) (by rw [rfR_len]; omega) (fun h hL => ?_) (wd q (2 + 7 * j + 5) + 1) 0 h (by omega) (by omega) hL
        refine e_iinc 112 (v := (nI ((2 + 7 * j) + 7))) (ls' := [some (.ref d), some (.ref b), some (.ref b2), some (.int (nI ((2 + 7 * j) + 7))), some (.ref a35), some (.int (nI (wd q ((2 + 7 * j) + 3)))), some (.int (nI (wd q ((2 + 7 * j) + 5)))), some (.int (nI (wd q (2 + 7 * j + 5))))]) dX6_readFiles_109 rfl rfl (nI_add (2 + 7 * j) 7) (by decide) rfl ?_
        refine e_goto 13 dX6_readFiles_112 rfl ?_
        have hL := hb35 _ _ _ hL
        rw [stM_self hi35] at hL
        have hL : stars [shf (A 9) 4 120 M, pt d (.inr (1, [.int (nI (v 0)), .int (nI (v 1)), .int (nI (v 2)), .ref (A 3), .ref (A 4), .ref (A 5), .ref (A 6), .ref (A 7), .int (nI (v 8)), .ref (A 9), .ref (A 10), .ref (A 11), .ref (A 12), .ref (A 13), .ref (A 14), .ref (A 15), .ref (A 16), .int (nI (v 17)), .int (nI (v 18)), .int (bI df)])), row b cb q, row b2 253 (rfR M q j ++ rfP (rwM M i35) q (2 + 7 * j) (wd q (2 + 7 * j + 5)))] h := hL
        have hL : stars [pt d (.inr (1, [.int (nI (v 0)), .int (nI (v 1)), .int (nI (v 2)), .ref (A 3), .ref (A 4), .ref (A 5), .ref (A 6), .ref (A 7), .int (nI (v 8)), .ref (A 9), .ref (A 10), .ref (A 11), .ref (A 12), .ref (A 13), .ref (A 14), .ref (A 15), .ref (A 16), .int (nI (v 17)), .int (nI (v 18)), .int (bI df)])), shf (A 9) 4 120 M, row b cb q, row b2 253 (rfR M q j ++ rfP (rwM M i35) q (2 + 7 * j) (wd q (2 + 7 * j + 5)))] h := stars_ixn hL 4 rfl [1, 0, 2, 3] (by decide) rfl
        rw [show rfR M q j ++ rfP (rwM M i35) q (2 + 7 * j) (wd q (2 + 7 * j + 5)) = rfR M q (j + 1) by rw [rfR, rfV_s hx35]] at hL
        refine e_wk [some (.ref d), some (.ref b), some (.ref b2), some (.int (nI (2 + 7 * (j + 1)))), none, none, none, none] ⟨rfl, rfl, rfl, by rw [show 2 + 7 * (j + 1) = 2 + 7 * j + 7 by omega], trivial⟩ ?_
        exact ih (j + 1) h (by omega) (by omega) hL
set_option maxRecDepth 20000 in
set_option maxHeartbeats 2000000 in
/-- readFiles(device, q, a) -/
theorem k_X6_readFiles {d b cb b2 T : Nat} {A v : Nat → Nat} {df : Bool} {M : List (Nat × List Nat)} {q : List Nat} (hq : ∀ x ∈ q, x < 256) (hM : okM 65536 M) (h7 : q.length = 2 + 7 * T) (hS : rdS q T ≤ 253) (hl9 : q.length ≤ 253) (hpt : ∀ j, j < T → fpF M q (2 + 7 * j) = true) : CA mX6_readFiles [.ref d, .ref b, .ref b2] [dvO d A v df, shf (A 9) 4 120 M, row b cb q, row b2 253 ([])] (fun r L => r = none ∧ L = [dvO d A v df, shf (A 9) 4 120 M, row b cb q, row b2 253 ((rfR M q T).set 1 (rdS q T - 2))]) 1 40 0 0 := by
  refine CA.mk 5 (ls := [some (.ref d), some (.ref b), some (.ref b2), none, none, none, none, none]) rfl rfl (Nat.le_of_ble_eq_true rfl) rfl (fun h hL => ?_)
  refine e_aload_n 1 dX6_readFiles_0 rfl rfl ?_
  refine e_bipush 3 (v := (nI 20)) dX6_readFiles_1 rfl (by decide) ?_
  refine p_callV 6 hL [3, 0, 1, 2] 4 rfl (by decide) (L1 := [row b2 253 ([])]) (L2 := [pt d (.inr (1, [.int (nI (v 0)), .int (nI (v 1)), .int (nI (v 2)), .ref (A 3), .ref (A 4), .ref (A 5), .ref (A 6), .ref (A 7), .int (nI (v 8)), .ref (A 9), .ref (A 10), .ref (A 11), .ref (A 12), .ref (A 13), .ref (A 14), .ref (A 15), .ref (A 16), .int (nI (v 17)), .int (nI (v 18)), .int (bI df)])), shf (A 9) 4 120 M, row b cb q]) rfl row_O 3 rfl dX6_readFiles_3 rfl cv_X6_40 (k_add1 (by simp only [List.length_append, List.length_cons, List.length_nil, pf_len, w2_len, List.length_map, List.length_range]; omega)) rfl rfl (Nat.le_of_ble_eq_true rfl) ⟨by decide, by omega, by omega⟩ (fun r1 L1 h q hL => ?_)
  obtain ⟨rfl, rfl⟩ := q
  have hL : stars [row b2 253 ([] ++ [20]), pt d (.inr (1, [.int (nI (v 0)), .int (nI (v 1)), .int (nI (v 2)), .ref (A 3), .ref (A 4), .ref (A 5), .ref (A 6), .ref (A 7), .int (nI (v 8)), .ref (A 9), .ref (A 10), .ref (A 11), .ref (A 12), .ref (A 13), .ref (A 14), .ref (A 15), .ref (A 16), .int (nI (v 17)), .int (nI (v 18)), .int (bI df)])), shf (A 9) 4 120 M, row b cb q] h := hL
  have hL : stars [pt d (.inr (1, [.int (nI (v 0)), .int (nI (v 1)), .int (nI (v 2)), .ref (A 3), .ref (A 4), .ref (A 5), .ref (A 6), .ref (A 7), .int (nI (v 8)), .ref (A 9), .ref (A 10), .ref (A 11), .ref (A 12), .ref (A 13), .ref (A 14), .ref (A 15), .ref (A 16), .int (nI (v 17)), .int (nI (v 18)), .int (bI df)])), shf (A 9) 4 120 M, row b cb q, row b2 253 ([] ++ [20])] h := stars_ixn hL 4 rfl [1, 2, 3, 0] (by decide) rfl
  refine e_aload_n 7 dX6_readFiles_6 rfl rfl ?_
  refine e_iconst 8 (v := (nI 0)) dX6_readFiles_7 rfl (by decide) ?_
  refine p_callV 11 hL [3, 0, 1, 2] 4 rfl (by decide) (L1 := [row b2 253 ([] ++ [20])]) (L2 := [pt d (.inr (1, [.int (nI (v 0)), .int (nI (v 1)), .int (nI (v 2)), .ref (A 3), .ref (A 4), .ref (A 5), .ref (A 6), .ref (A 7), .int (nI (v 8)), .ref (A 9), .ref (A 10), .ref (A 11), .ref (A 12), .ref (A 13), .ref (A 14), .ref (A 15), .ref (A 16), .int (nI (v 17)), .int (nI (v 18)), .int (bI df)])), shf (A 9) 4 120 M, row b cb q]) rfl row_O 3 rfl dX6_readFiles_8 rfl cv_X6_40 (k_add1 (by simp only [List.length_append, List.length_cons, List.length_nil, pf_len, w2_len, List.length_map, List.length_range]; omega)) rfl rfl (Nat.le_of_ble_eq_true rfl) ⟨by decide, by omega, by omega⟩ (fun r1 L1 h q hL => ?_)
  obtain ⟨rfl, rfl⟩ := q
  have hL : stars [row b2 253 (([] ++ [20]) ++ [0]), pt d (.inr (1, [.int (nI (v 0)), .int (nI (v 1)), .int (nI (v 2)), .ref (A 3), .ref (A 4), .ref (A 5), .ref (A 6), .ref (A 7), .int (nI (v 8)), .ref (A 9), .ref (A 10), .ref (A 11), .ref (A 12), .ref (A 13), .ref (A 14), .ref (A 15), .ref (A 16), .int (nI (v 17)), .int (nI (v 18)), .int (bI df)])), shf (A 9) 4 120 M, row b cb q] h := hL
  have hL : stars [pt d (.inr (1, [.int (nI (v 0)), .int (nI (v 1)), .int (nI (v 2)), .ref (A 3), .ref (A 4), .ref (A 5), .ref (A 6), .ref (A 7), .int (nI (v 8)), .ref (A 9), .ref (A 10), .ref (A 11), .ref (A 12), .ref (A 13), .ref (A 14), .ref (A 15), .ref (A 16), .int (nI (v 17)), .int (nI (v 18)), .int (bI df)])), shf (A 9) 4 120 M, row b cb q, row b2 253 (([] ++ [20]) ++ [0])] h := stars_ixn hL 4 rfl [1, 2, 3, 0] (by decide) rfl
  refine e_iconst 12 (v := (nI 2)) dX6_readFiles_11 rfl (by decide) ?_
  refine e_istore_n 13 (ls' := [some (.ref d), some (.ref b), some (.ref b2), some (.int (nI 2)), none, none, none, none]) dX6_readFiles_12 rfl (by decide) rfl ?_
  exact l_X6_readFiles hq hM h7 hS hl9 hpt (T + 1) 0 h (by omega) (by omega) hL
set_option maxRecDepth 20000 in
set_option maxHeartbeats 2000000 in
theorem l_X6_writeFiles_in {d b cb c p i9 : Nat} {A v : Nat → Nat} {df : Bool} {q r : List Nat} {R : sA} {Q : Option Value → eH → Prop} (hq : ∀ x ∈ q, x < 256) (hi9 : i9 < 1000) (hn9 : wd q (i9 + 5) < 300) (kk : ∀ h, stars [row c 120 (wvF q (wd q (i9 + 3)) (i9 + 7) r (wd q (i9 + 5))), R, pt d (.inr (1, [.int (nI (v 0)), .int (nI (v 1)), .int (nI (v 2)), .ref (A 3), .ref (A 4), .ref (A 5), .ref (A 6), .ref (A 7), .int (nI (v 8)), .ref (A 9), .ref (A 10), .ref (A 11), .ref (A 12), .ref (A 13), .ref (A 14), .ref (A 15), .ref (A 16), .int (nI (v 17)), .int (nI (v 18)), .int (bI df)])), row b cb q] h → EE mX6_writeFiles 1 40 0 0 Q 96 [some (.ref d), some (.ref b), some (.int (nI (i9 + 7))), some (.int (nI p)), some (.ref c), some (.int (nI (wd q (i9 + 3)))), some (.int (nI (wd q (i9 + 5)))), some (.int (nI (wd q (i9 + 5))))] [] h 0 0) : ∀ (n : Nat) (m : Nat) (h : eH), wd q (i9 + 5) - m < n → m ≤ wd q (i9 + 5) → stars [row c 120 (wvF q (wd q (i9 + 3)) (i9 + 7) r m), R, pt d (.inr (1, [.int (nI (v 0)), .int (nI (v 1)), .int (nI (v 2)), .ref (A 3), .ref (A 4), .ref (A 5), .ref (A 6), .ref (A 7), .int (nI (v 8)), .ref (A 9), .ref (A 10), .ref (A 11), .ref (A 12), .ref (A 13), .ref (A 14), .ref (A 15), .ref (A 16), .int (nI (v 17)), .int (nI (v 18)), .int (bI df)])), row b cb q] h → EE mX6_writeFiles 1 40 0 0 (Q) 58 [some (.ref d), some (.ref b), some (.int (nI (i9 + 7))), some (.int (nI p)), some (.ref c), some (.int (nI (wd q (i9 + 3)))), some (.int (nI (wd q (i9 + 5)))), some (.int (nI m))] [] h 0 0 := by
  intro n
  induction n with
  | zero => intro m h hlt hm hL; exact absurd hlt (by omega)
  | succ n ih =>
    intro m h hlt hm hL
    have hw3 := wd_lt (k := i9 + 3) hq
    refine e_iload 60 dX6_writeFiles_58 rfl rfl ?_
    refine e_iload 62 dX6_writeFiles_60 rfl rfl ?_
    refine e_icmp_ge 96 65 dX6_writeFiles_62 rfl rfl (fun c62 => ?_) (fun c62 => ?_)
    · have k62 := j_ge_t (a := m) (b := (wd q (i9 + 5))) (by omega) (by omega) c62
      obtain rfl : m = wd q (i9 + 5) := by omega
      exact kk h hL
    · have k62 := j_ge_f (a := m) (b := (wd q (i9 + 5))) (by omega) (by omega) c62
      refine e_aload 67 dX6_writeFiles_65 rfl rfl ?_
      refine e_ifnull 70 dX6_writeFiles_67 rfl ?_
      refine e_aload 72 dX6_writeFiles_70 rfl rfl ?_
      refine e_iload 74 dX6_writeFiles_72 rfl rfl ?_
      refine e_iload 76 dX6_writeFiles_74 rfl rfl ?_
      refine e_iadd 77 (v := (nI ((wd q (i9 + 3)) + m))) dX6_writeFiles_76 rfl (nI_add (wd q (i9 + 3)) m) ?_
      refine e_aload_n 78 dX6_writeFiles_77 rfl rfl ?_
      refine e_iload_n 79 dX6_writeFiles_78 rfl rfl ?_
      refine e_iconst 80 (v := (nI 2)) dX6_writeFiles_79 rfl (by decide) ?_
      refine e_iload 82 dX6_writeFiles_80 rfl rfl ?_
      refine e_imul 83 (v := (nI (2 * m))) dX6_writeFiles_82 rfl (pk_mul 2 m) ?_
      refine e_iadd 84 (v := (nI ((i9 + 7) + (2 * m)))) dX6_writeFiles_83 rfl (nI_add (i9 + 7) (2 * m)) ?_
      refine p_callV 87 hL [3, 0, 1, 2] 4 rfl (by decide) (L1 := [row b cb q]) (L2 := [row c 120 (wvF q (wd q (i9 + 3)) (i9 + 7) r m), R, pt d (.inr (1, [.int (nI (v 0)), .int (nI (v 1)), .int (nI (v 2)), .ref (A 3), .ref (A 4), .ref (A 5), .ref (A 6), .ref (A 7), .int (nI (v 8)), .ref (A 9), .ref (A 10), .ref (A 11), .ref (A 12), .ref (A 13), .ref (A 14), .ref (A 15), .ref (A 16), .int (nI (v 17)), .int (nI (v 18)), .int (bI df)]))]) rfl row_O 3 rfl dX6_writeFiles_84 rfl cv_X6_54 (k_X4_word (by omega)) rfl rfl (Nat.le_of_ble_eq_true rfl) ⟨by decide, by omega, by omega⟩ (fun r1 L1 h q hL => ?_)
      obtain ⟨rfl, rfl⟩ := q
      have hL : stars [row b cb q, row c 120 (wvF q (wd q (i9 + 3)) (i9 + 7) r m), R, pt d (.inr (1, [.int (nI (v 0)), .int (nI (v 1)), .int (nI (v 2)), .ref (A 3), .ref (A 4), .ref (A 5), .ref (A 6), .ref (A 7), .int (nI (v 8)), .ref (A 9), .ref (A 10), .ref (A 11), .ref (A 12), .ref (A 13), .ref (A 14), .ref (A 15), .ref (A 16), .int (nI (v 17)), .int (nI (v 18)), .int (bI df)]))] h := hL
      have hL : stars [row c 120 (wvF q (wd q (i9 + 3)) (i9 + 7) r m), R, pt d (.inr (1, [.int (nI (v 0)), .int (nI (v 1)), .int (nI (v 2)), .ref (A 3), .ref (A 4), .ref (A 5), .ref (A 6), .ref (A 7), .int (nI (v 8)), .ref (A 9), .ref (A 10), .ref (A 11), .ref (A 12), .ref (A 13), .ref (A 14), .ref (A 15), .ref (A 16), .int (nI (v 17)), .int (nI (v 18)), .int (bI df)])), row b cb q] h := stars_ixn hL 4 rfl [1, 2, 3, 0] (by decide) rfl
      refine p_callV 90 hL [0, 1, 2, 3] 4 rfl (by decide) (L1 := [row c 120 (wvF q (wd q (i9 + 3)) (i9 + 7) r m)]) (L2 := [R, pt d (.inr (1, [.int (nI (v 0)), .int (nI (v 1)), .int (nI (v 2)), .ref (A 3), .ref (A 4), .ref (A 5), .ref (A 6), .ref (A 7), .int (nI (v 8)), .ref (A 9), .ref (A 10), .ref (A 11), .ref (A 12), .ref (A 13), .ref (A 14), .ref (A 15), .ref (A 16), .int (nI (v 17)), .int (nI (v 18)), .int (bI df)])), row b cb q]) rfl row_O 0 rfl dX6_writeFiles_87 rfl cv_X6_208 (k_X4_change (by omega)) rfl rfl (Nat.le_of_ble_eq_true rfl) ⟨by decide, by omega, by omega⟩ (fun r1 L1 h q hL => ?_)
      obtain ⟨rfl, rfl⟩ := q
      have hL : stars [row c 120 ((wvF q (wd q (i9 + 3)) (i9 + 7) r m).set ((wd q (i9 + 3)) + m) (wd q ((i9 + 7) + (2 * m)))), R, pt d (.inr (1, [.int (nI (v 0)), .int (nI (v 1)), .int (nI (v 2)), .ref (A 3), .ref (A 4), .ref (A 5), .ref (A 6), .ref (A 7), .int (nI (v 8)), .ref (A 9), .ref (A 10), .ref (A 11), .ref (A 12), .ref (A 13), .ref (A 14), .ref (A 15), .ref (A 16), .int (nI (v 17)), .int (nI (v 18)), .int (bI df)])), row b cb q] h := hL
      refine e_iinc 93 (v := (nI (m + 1))) (ls' := [some (.ref d), some (.ref b), some (.int (nI (i9 + 7))), some (.int (nI p)), some (.ref c), some (.int (nI (wd q (i9 + 3)))), some (.int (nI (wd q (i9 + 5)))), some (.int (nI (m + 1)))]) dX6_writeFiles_90 rfl rfl (nI_add m 1) (by decide) rfl ?_
      refine e_goto 58 dX6_writeFiles_93 rfl ?_
      exact ih (m + 1) h (by omega) (by omega) hL
set_option maxRecDepth 20000 in
set_option maxHeartbeats 2000000 in
theorem l_X6_writeFiles {d b cb : Nat} {A v : Nat → Nat} {df : Bool} {M0 : List (Nat × List Nat)} {q : List Nat} (hq : ∀ x ∈ q, x < 256) (hl9 : q.length ≤ 253) (hw : wpE q 36 2 = q.length) : ∀ (n : Nat) (p t i : Nat) (M : List (Nat × List Nat)) (h : eH), t < n → p + t = 36 → i ≤ q.length → wpE q t i = q.length → wfF q t i M = wfF q 36 2 M0 → stars [pt d (.inr (1, [.int (nI (v 0)), .int (nI (v 1)), .int (nI (v 2)), .ref (A 3), .ref (A 4), .ref (A 5), .ref (A 6), .ref (A 7), .int (nI (v 8)), .ref (A 9), .ref (A 10), .ref (A 11), .ref (A 12), .ref (A 13), .ref (A 14), .ref (A 15), .ref (A 16), .int (nI (v 17)), .int (nI (v 18)), .int (bI df)])), shf (A 9) 4 120 M, row b cb q] h → EE mX6_writeFiles 1 40 0 0 (fun r h' => ∃ L', (r = none ∧ L' = [dvO d A v df, shf (A 9) 4 120 (wfF q 36 2 M0), row b cb q]) ∧ stars L' h') 4 [some (.ref d), some (.ref b), some (.int (nI i)), some (.int (nI p)), none, none, none, none] [] h 0 0 := by
  intro n
  induction n with
  | zero => intro p t i M h hlt hpt hi hw2 he hL; exact absurd hlt (by omega)
  | succ n ih =>
    intro p t i M h hlt hpt hi hw2 he hL
    have hw1 := wd_lt (k := i + 1) hq
    have hw3 := wd_lt (k := i + 3) hq
    have hw5 := wd_lt (k := i + 5) hq
    refine e_iload_n 5 dX6_writeFiles_4 rfl rfl ?_
    refine e_bipush 7 (v := (nI 36)) dX6_writeFiles_5 rfl (by decide) ?_
    refine e_icmp_ge 109 10 dX6_writeFiles_7 rfl rfl (fun c7 => ?_) (fun c7 => ?_)
    · have k7 := j_ge_t (a := p) (b := 36) (by omega) (by omega) c7
      exact e_vret dX6_writeFiles_109 rfl (by omega) (by omega) (⟨_, ⟨rfl, rfl⟩, by rw [← he]; cases t with | zero => exact hL | succ t => rw [wfF, if_neg (by omega)]; exact hL⟩)
    · have k7 := j_ge_f (a := p) (b := 36) (by omega) (by omega) c7
      refine e_iload_n 11 dX6_writeFiles_10 rfl rfl ?_
      refine e_aload_n 12 dX6_writeFiles_11 rfl rfl ?_
      obtain ⟨z12, y12⟩ := row_at _ 2 hL rfl
      refine e_get 15 dX6_writeFiles_12 rfl fl_X6_104_4 y12 rfl ?_
      refine e_icmp_ge 109 18 dX6_writeFiles_15 rfl rfl (fun c15 => ?_) (fun c15 => ?_)
      · have k15 := j_ge_t (a := i) (b := q.length) (by omega) (by omega) c15
        exact e_vret dX6_writeFiles_109 rfl (by omega) (by omega) (⟨_, ⟨rfl, rfl⟩, by rw [← he]; cases t with | zero => exact hL | succ t => rw [wfF, if_neg (by omega)]; exact hL⟩)
      · have k15 := j_ge_f (a := i) (b := q.length) (by omega) (by omega) c15
        obtain ⟨t, rfl⟩ : ∃ t1, t = t1 + 1 := ⟨t - 1, by omega⟩
        have hw4 := wpE_in hw2 (by omega)
        refine e_aload_n 19 dX6_writeFiles_18 rfl rfl ?_
        refine e_get 22 dX6_writeFiles_19 rfl fl_X6_107_1 (stars_at _ 0 hL rfl) rfl ?_
        refine e_aload_n 23 dX6_writeFiles_22 rfl rfl ?_
        refine e_iload_n 24 dX6_writeFiles_23 rfl rfl ?_
        refine e_iconst 25 (v := (nI 1)) dX6_writeFiles_24 rfl (by decide) ?_
        refine e_iadd 26 (v := (nI (i + 1))) dX6_writeFiles_25 rfl (nI_add i 1) ?_
        refine p_callV 29 hL [2, 0, 1] 3 rfl (by decide) (L1 := [row b cb q]) (L2 := [pt d (.inr (1, [.int (nI (v 0)), .int (nI (v 1)), .int (nI (v 2)), .ref (A 3), .ref (A 4), .ref (A 5), .ref (A 6), .ref (A 7), .int (nI (v 8)), .ref (A 9), .ref (A 10), .ref (A 11), .ref (A 12), .ref (A 13), .ref (A 14), .ref (A 15), .ref (A 16), .int (nI (v 17)), .int (nI (v 18)), .int (bI df)])), shf (A 9) 4 120 M]) rfl row_O 2 rfl dX6_writeFiles_26 rfl cv_X6_54 (k_X4_word (by omega)) rfl rfl (Nat.le_of_ble_eq_true rfl) ⟨by decide, by omega, by omega⟩ (fun r1 L1 h q hL => ?_)
        obtain ⟨rfl, rfl⟩ := q
        have hL : stars [row b cb q, pt d (.inr (1, [.int (nI (v 0)), .int (nI (v 1)), .int (nI (v 2)), .ref (A 3), .ref (A 4), .ref (A 5), .ref (A 6), .ref (A 7), .int (nI (v 8)), .ref (A 9), .ref (A 10), .ref (A 11), .ref (A 12), .ref (A 13), .ref (A 14), .ref (A 15), .ref (A 16), .int (nI (v 17)), .int (nI (v 18)), .int (bI df)])), shf (A 9) 4 120 M] h := hL
        have hL : stars [pt d (.inr (1, [.int (nI (v 0)), .int (nI (v 1)), .int (nI (v 2)), .ref (A 3), .ref (A 4), .ref (A 5), .ref (A 6), .ref (A 7), .int (nI (v 8)), .ref (A 9), .ref (A 10), .ref (A 11), .ref (A 12), .ref (A 13), .ref (A 14), .ref (A 15), .ref (A 16), .int (nI (v 17)), .int (nI (v 18)), .int (bI df)])), shf (A 9) 4 120 M, row b cb q] h := stars_ixn hL 3 rfl [1, 2, 0] (by decide) rfl
        have hL : stars [shf (A 9) 4 120 M, pt d (.inr (1, [.int (nI (v 0)), .int (nI (v 1)), .int (nI (v 2)), .ref (A 3), .ref (A 4), .ref (A 5), .ref (A 6), .ref (A 7), .int (nI (v 8)), .ref (A 9), .ref (A 10), .ref (A 11), .ref (A 12), .ref (A 13), .ref (A 14), .ref (A 15), .ref (A 16), .int (nI (v 17)), .int (nI (v 18)), .int (bI df)])), row b cb q] h := stars_ixn hL 3 rfl [1, 0, 2] (by decide) rfl
        obtain ⟨K29, C29, hM29, hL⟩ := shf_o hL
        refine p_callV 32 hL [0, 1, 2, 3] 4 rfl (by decide) (L1 := [shB (A 9) 4 120 K29]) (L2 := [rws 120 K29 C29, pt d (.inr (1, [.int (nI (v 0)), .int (nI (v 1)), .int (nI (v 2)), .ref (A 3), .ref (A 4), .ref (A 5), .ref (A 6), .ref (A 7), .int (nI (v 8)), .ref (A 9), .ref (A 10), .ref (A 11), .ref (A 12), .ref (A 13), .ref (A 14), .ref (A 15), .ref (A 16), .int (nI (v 17)), .int (nI (v 18)), .int (bI df)])), row b cb q]) rfl shB_O 0 rfl dX6_writeFiles_29 rfl cv_X6_98 k_X8_find rfl rfl (Nat.le_of_ble_eq_true rfl) ⟨by decide, by omega, by omega⟩ (fun r1 L1 h q hL => ?_)
        obtain ⟨rfl, rfl⟩ := q
        have hL : stars [shB (A 9) 4 120 K29, rws 120 K29 C29, pt d (.inr (1, [.int (nI (v 0)), .int (nI (v 1)), .int (nI (v 2)), .ref (A 3), .ref (A 4), .ref (A 5), .ref (A 6), .ref (A 7), .int (nI (v 8)), .ref (A 9), .ref (A 10), .ref (A 11), .ref (A 12), .ref (A 13), .ref (A 14), .ref (A 15), .ref (A 16), .int (nI (v 17)), .int (nI (v 18)), .int (bI df)])), row b cb q] h := hL
        rcases shf_r (nI (wd q (i + 1))) hM29 hL with ⟨hx29, hk29, hL⟩ | ⟨i29, a29, R29, hx29, hi29, hk29, hL, hb29⟩
        · rw [hk29]
          refine e_astoreN 34 (ls' := [some (.ref d), some (.ref b), some (.int (nI i)), some (.int (nI p)), some .null, none, none, none]) dX6_writeFiles_32 rfl (by decide) rfl ?_
          refine e_aload_n 35 dX6_writeFiles_34 rfl rfl ?_
          refine e_iload_n 36 dX6_writeFiles_35 rfl rfl ?_
          refine e_iconst 37 (v := (nI 3)) dX6_writeFiles_36 rfl (by decide) ?_
          refine e_iadd 38 (v := (nI (i + 3))) dX6_writeFiles_37 rfl (nI_add i 3) ?_
          refine p_callV 41 hL [2, 0, 1] 3 rfl (by decide) (L1 := [row b cb q]) (L2 := [shf (A 9) 4 120 M, pt d (.inr (1, [.int (nI (v 0)), .int (nI (v 1)), .int (nI (v 2)), .ref (A 3), .ref (A 4), .ref (A 5), .ref (A 6), .ref (A 7), .int (nI (v 8)), .ref (A 9), .ref (A 10), .ref (A 11), .ref (A 12), .ref (A 13), .ref (A 14), .ref (A 15), .ref (A 16), .int (nI (v 17)), .int (nI (v 18)), .int (bI df)]))]) rfl row_O 2 rfl dX6_writeFiles_38 rfl cv_X6_54 (k_X4_word (by omega)) rfl rfl (Nat.le_of_ble_eq_true rfl) ⟨by decide, by omega, by omega⟩ (fun r1 L1 h q hL => ?_)
          obtain ⟨rfl, rfl⟩ := q
          have hL : stars [row b cb q, shf (A 9) 4 120 M, pt d (.inr (1, [.int (nI (v 0)), .int (nI (v 1)), .int (nI (v 2)), .ref (A 3), .ref (A 4), .ref (A 5), .ref (A 6), .ref (A 7), .int (nI (v 8)), .ref (A 9), .ref (A 10), .ref (A 11), .ref (A 12), .ref (A 13), .ref (A 14), .ref (A 15), .ref (A 16), .int (nI (v 17)), .int (nI (v 18)), .int (bI df)]))] h := hL
          have hL : stars [shf (A 9) 4 120 M, pt d (.inr (1, [.int (nI (v 0)), .int (nI (v 1)), .int (nI (v 2)), .ref (A 3), .ref (A 4), .ref (A 5), .ref (A 6), .ref (A 7), .int (nI (v 8)), .ref (A 9), .ref (A 10), .ref (A 11), .ref (A 12), .ref (A 13), .ref (A 14), .ref (A 15), .ref (A 16), .int (nI (v 17)), .int (nI (v 18)), .int (bI df)])), row b cb q] h := stars_ixn hL 3 rfl [1, 2, 0] (by decide) rfl
          refine e_istore 43 (ls' := [some (.ref d), some (.ref b), some (.int (nI i)), some (.int (nI p)), some .null, some (.int (nI (wd q (i + 3)))), none, none]) dX6_writeFiles_41 rfl (by decide) rfl ?_
          refine e_aload_n 44 dX6_writeFiles_43 rfl rfl ?_
          refine e_iload_n 45 dX6_writeFiles_44 rfl rfl ?_
          refine e_iconst 46 (v := (nI 5)) dX6_writeFiles_45 rfl (by decide) ?_
          refine e_iadd 47 (v := (nI (i + 5))) dX6_writeFiles_46 rfl (nI_add i 5) ?_
          refine p_callV 50 hL [2, 0, 1] 3 rfl (by decide) (L1 := [row b cb q]) (L2 := [shf (A 9) 4 120 M, pt d (.inr (1, [.int (nI (v 0)), .int (nI (v 1)), .int (nI (v 2)), .ref (A 3), .ref (A 4), .ref (A 5), .ref (A 6), .ref (A 7), .int (nI (v 8)), .ref (A 9), .ref (A 10), .ref (A 11), .ref (A 12), .ref (A 13), .ref (A 14), .ref (A 15), .ref (A 16), .int (nI (v 17)), .int (nI (v 18)), .int (bI df)]))]) rfl row_O 2 rfl dX6_writeFiles_47 rfl cv_X6_54 (k_X4_word (by omega)) rfl rfl (Nat.le_of_ble_eq_true rfl) ⟨by decide, by omega, by omega⟩ (fun r1 L1 h q hL => ?_)
          obtain ⟨rfl, rfl⟩ := q
          have hL : stars [row b cb q, shf (A 9) 4 120 M, pt d (.inr (1, [.int (nI (v 0)), .int (nI (v 1)), .int (nI (v 2)), .ref (A 3), .ref (A 4), .ref (A 5), .ref (A 6), .ref (A 7), .int (nI (v 8)), .ref (A 9), .ref (A 10), .ref (A 11), .ref (A 12), .ref (A 13), .ref (A 14), .ref (A 15), .ref (A 16), .int (nI (v 17)), .int (nI (v 18)), .int (bI df)]))] h := hL
          have hL : stars [shf (A 9) 4 120 M, pt d (.inr (1, [.int (nI (v 0)), .int (nI (v 1)), .int (nI (v 2)), .ref (A 3), .ref (A 4), .ref (A 5), .ref (A 6), .ref (A 7), .int (nI (v 8)), .ref (A 9), .ref (A 10), .ref (A 11), .ref (A 12), .ref (A 13), .ref (A 14), .ref (A 15), .ref (A 16), .int (nI (v 17)), .int (nI (v 18)), .int (bI df)])), row b cb q] h := stars_ixn hL 3 rfl [1, 2, 0] (by decide) rfl
          refine e_istore 52 (ls' := [some (.ref d), some (.ref b), some (.int (nI i)), some (.int (nI p)), some .null, some (.int (nI (wd q (i + 3)))), some (.int (nI (wd q (i + 5)))), none]) dX6_writeFiles_50 rfl (by decide) rfl ?_
          refine e_iinc 55 (v := (nI (i + 7))) (ls' := [some (.ref d), some (.ref b), some (.int (nI (i + 7))), some (.int (nI p)), some .null, some (.int (nI (wd q (i + 3)))), some (.int (nI (wd q (i + 5)))), none]) dX6_writeFiles_52 rfl rfl (nI_add i 7) (by decide) rfl ?_
          refine e_iconst 56 (v := (nI 0)) dX6_writeFiles_55 rfl (by decide) ?_
          refine e_istore 58 (ls' := [some (.ref d), some (.ref b), some (.int (nI (i + 7))), some (.int (nI p)), some .null, some (.int (nI (wd q (i + 3)))), some (.int (nI (wd q (i + 5)))), some (.int (nI 0))]) dX6_writeFiles_56 rfl (by decide) rfl ?_
          refine e_iload 60 dX6_writeFiles_58 rfl rfl ?_
          refine e_iload 62 dX6_writeFiles_60 rfl rfl ?_
          refine e_icmp_ge 96 65 dX6_writeFiles_62 rfl rfl (fun c62 => ?_) (fun c62 => ?_)
          · have k62 := j_ge_t (a := 0) (b := (wd q (i + 5))) (by omega) (by omega) c62
            refine e_iload_n 97 dX6_writeFiles_96 rfl rfl ?_
            refine e_iconst 98 (v := (nI 2)) dX6_writeFiles_97 rfl (by decide) ?_
            refine e_iload 100 dX6_writeFiles_98 rfl rfl ?_
            refine e_imul 101 (v := (nI (2 * (wd q (i + 5))))) dX6_writeFiles_100 rfl (pk_mul 2 (wd q (i + 5))) ?_
            refine e_iadd 102 (v := (nI ((i + 7) + (2 * (wd q (i + 5)))))) dX6_writeFiles_101 rfl (nI_add (i + 7) (2 * (wd q (i + 5)))) ?_
            refine e_istore_n 103 (ls' := [some (.ref d), some (.ref b), some (.int (nI ((i + 7) + (2 * (wd q (i + 5)))))), some (.int (nI p)), some .null, some (.int (nI (wd q (i + 3)))), some (.int (nI (wd q (i + 5)))), some (.int (nI 0))]) dX6_writeFiles_102 rfl (by decide) rfl ?_
            refine e_iinc 106 (v := (nI (p + 1))) (ls' := [some (.ref d), some (.ref b), some (.int (nI ((i + 7) + (2 * (wd q (i + 5)))))), some (.int (nI (p + 1))), some .null, some (.int (nI (wd q (i + 3)))), some (.int (nI (wd q (i + 5)))), some (.int (nI 0))]) dX6_writeFiles_103 rfl rfl (nI_add p 1) (by decide) rfl ?_
            refine e_goto 4 dX6_writeFiles_106 rfl ?_
            have hL : stars [pt d (.inr (1, [.int (nI (v 0)), .int (nI (v 1)), .int (nI (v 2)), .ref (A 3), .ref (A 4), .ref (A 5), .ref (A 6), .ref (A 7), .int (nI (v 8)), .ref (A 9), .ref (A 10), .ref (A 11), .ref (A 12), .ref (A 13), .ref (A 14), .ref (A 15), .ref (A 16), .int (nI (v 17)), .int (nI (v 18)), .int (bI df)])), shf (A 9) 4 120 M, row b cb q] h := stars_ixn hL 3 rfl [1, 0, 2] (by decide) rfl
            rw [show M = wfS q M i by simp only [wfS, hx29]] at hL
            refine e_wk [some (.ref d), some (.ref b), some (.int (nI (i + 7 + 2 * wd q (i + 5)))), some (.int (nI (p + 1))), none, none, none, none] ⟨rfl, rfl, rfl, rfl, trivial⟩ ?_
            exact ih (p + 1) t (i + 7 + 2 * wd q (i + 5)) (wfS q M i) h (by omega) (by omega) hw4.1 hw4.2 (by rw [← he, wfF, if_pos (by omega)]) hL
          · have k62 := j_ge_f (a := 0) (b := (wd q (i + 5))) (by omega) (by omega) c62
            refine e_aloadN 67 dX6_writeFiles_65 rfl rfl ?_
            refine e_ifnullN 96 dX6_writeFiles_67 rfl ?_
            refine e_iload_n 97 dX6_writeFiles_96 rfl rfl ?_
            refine e_iconst 98 (v := (nI 2)) dX6_writeFiles_97 rfl (by decide) ?_
            refine e_iload 100 dX6_writeFiles_98 rfl rfl ?_
            refine e_imul 101 (v := (nI (2 * (wd q (i + 5))))) dX6_writeFiles_100 rfl (pk_mul 2 (wd q (i + 5))) ?_
            refine e_iadd 102 (v := (nI ((i + 7) + (2 * (wd q (i + 5)))))) dX6_writeFiles_101 rfl (nI_add (i + 7) (2 * (wd q (i + 5)))) ?_
            refine e_istore_n 103 (ls' := [some (.ref d), some (.ref b), some (.int (nI ((i + 7) + (2 * (wd q (i + 5)))))), some (.int (nI p)), some .null, some (.int (nI (wd q (i + 3)))), some (.int (nI (wd q (i + 5)))), some (.int (nI 0))]) dX6_writeFiles_102 rfl (by decide) rfl ?_
            refine e_iinc 106 (v := (nI (p + 1))) (ls' := [some (.ref d), some (.ref b), some (.int (nI ((i + 7) + (2 * (wd q (i + 5)))))), some (.int (nI (p + 1))), some .null, some (.int (nI (wd q (i + 3)))), some (.int (nI (wd q (i + 5)))), some (.int (nI 0))]) dX6_writeFiles_103 rfl rfl (nI_add p 1) (by decide) rfl ?_
            refine e_goto 4 dX6_writeFiles_106 rfl ?_
            have hL : stars [pt d (.inr (1, [.int (nI (v 0)), .int (nI (v 1)), .int (nI (v 2)), .ref (A 3), .ref (A 4), .ref (A 5), .ref (A 6), .ref (A 7), .int (nI (v 8)), .ref (A 9), .ref (A 10), .ref (A 11), .ref (A 12), .ref (A 13), .ref (A 14), .ref (A 15), .ref (A 16), .int (nI (v 17)), .int (nI (v 18)), .int (bI df)])), shf (A 9) 4 120 M, row b cb q] h := stars_ixn hL 3 rfl [1, 0, 2] (by decide) rfl
            rw [show M = wfS q M i by simp only [wfS, hx29]] at hL
            refine e_wk [some (.ref d), some (.ref b), some (.int (nI (i + 7 + 2 * wd q (i + 5)))), some (.int (nI (p + 1))), none, none, none, none] ⟨rfl, rfl, rfl, rfl, trivial⟩ ?_
            exact ih (p + 1) t (i + 7 + 2 * wd q (i + 5)) (wfS q M i) h (by omega) (by omega) hw4.1 hw4.2 (by rw [← he, wfF, if_pos (by omega)]) hL
        · rw [hk29]
          have hle29 := row_len _ 0 hL rfl
          refine e_astore 34 (ls' := [some (.ref d), some (.ref b), some (.int (nI i)), some (.int (nI p)), some (.ref a29), none, none, none]) dX6_writeFiles_32 rfl (by decide) rfl ?_
          refine e_aload_n 35 dX6_writeFiles_34 rfl rfl ?_
          refine e_iload_n 36 dX6_writeFiles_35 rfl rfl ?_
          refine e_iconst 37 (v := (nI 3)) dX6_writeFiles_36 rfl (by decide) ?_
          refine e_iadd 38 (v := (nI (i + 3))) dX6_writeFiles_37 rfl (nI_add i 3) ?_
          refine p_callV 41 hL [3, 0, 1, 2] 4 rfl (by decide) (L1 := [row b cb q]) (L2 := [row a29 120 (rwM M i29), R29, pt d (.inr (1, [.int (nI (v 0)), .int (nI (v 1)), .int (nI (v 2)), .ref (A 3), .ref (A 4), .ref (A 5), .ref (A 6), .ref (A 7), .int (nI (v 8)), .ref (A 9), .ref (A 10), .ref (A 11), .ref (A 12), .ref (A 13), .ref (A 14), .ref (A 15), .ref (A 16), .int (nI (v 17)), .int (nI (v 18)), .int (bI df)]))]) rfl row_O 3 rfl dX6_writeFiles_38 rfl cv_X6_54 (k_X4_word (by omega)) rfl rfl (Nat.le_of_ble_eq_true rfl) ⟨by decide, by omega, by omega⟩ (fun r1 L1 h q hL => ?_)
          obtain ⟨rfl, rfl⟩ := q
          have hL : stars [row b cb q, row a29 120 (rwM M i29), R29, pt d (.inr (1, [.int (nI (v 0)), .int (nI (v 1)), .int (nI (v 2)), .ref (A 3), .ref (A 4), .ref (A 5), .ref (A 6), .ref (A 7), .int (nI (v 8)), .ref (A 9), .ref (A 10), .ref (A 11), .ref (A 12), .ref (A 13), .ref (A 14), .ref (A 15), .ref (A 16), .int (nI (v 17)), .int (nI (v 18)), .int (bI df)]))] h := hL
          have hL : stars [row a29 120 (rwM M i29), R29, pt d (.inr (1, [.int (nI (v 0)), .int (nI (v 1)), .int (nI (v 2)), .ref (A 3), .ref (A 4), .ref (A 5), .ref (A 6), .ref (A 7), .int (nI (v 8)), .ref (A 9), .ref (A 10), .ref (A 11), .ref (A 12), .ref (A 13), .ref (A 14), .ref (A 15), .ref (A 16), .int (nI (v 17)), .int (nI (v 18)), .int (bI df)])), row b cb q] h := stars_ixn hL 4 rfl [1, 2, 3, 0] (by decide) rfl
          refine e_istore 43 (ls' := [some (.ref d), some (.ref b), some (.int (nI i)), some (.int (nI p)), some (.ref a29), some (.int (nI (wd q (i + 3)))), none, none]) dX6_writeFiles_41 rfl (by decide) rfl ?_
          refine e_aload_n 44 dX6_writeFiles_43 rfl rfl ?_
          refine e_iload_n 45 dX6_writeFiles_44 rfl rfl ?_
          refine e_iconst 46 (v := (nI 5)) dX6_writeFiles_45 rfl (by decide) ?_
          refine e_iadd 47 (v := (nI (i + 5))) dX6_writeFiles_46 rfl (nI_add i 5) ?_
          refine p_callV 50 hL [3, 0, 1, 2] 4 rfl (by decide) (L1 := [row b cb q]) (L2 := [row a29 120 (rwM M i29), R29, pt d (.inr (1, [.int (nI (v 0)), .int (nI (v 1)), .int (nI (v 2)), .ref (A 3), .ref (A 4), .ref (A 5), .ref (A 6), .ref (A 7), .int (nI (v 8)), .ref (A 9), .ref (A 10), .ref (A 11), .ref (A 12), .ref (A 13), .ref (A 14), .ref (A 15), .ref (A 16), .int (nI (v 17)), .int (nI (v 18)), .int (bI df)]))]) rfl row_O 3 rfl dX6_writeFiles_47 rfl cv_X6_54 (k_X4_word (by omega)) rfl rfl (Nat.le_of_ble_eq_true rfl) ⟨by decide, by omega, by omega⟩ (fun r1 L1 h q hL => ?_)
          obtain ⟨rfl, rfl⟩ := q
          have hL : stars [row b cb q, row a29 120 (rwM M i29), R29, pt d (.inr (1, [.int (nI (v 0)), .int (nI (v 1)), .int (nI (v 2)), .ref (A 3), .ref (A 4), .ref (A 5), .ref (A 6), .ref (A 7), .int (nI (v 8)), .ref (A 9), .ref (A 10), .ref (A 11), .ref (A 12), .ref (A 13), .ref (A 14), .ref (A 15), .ref (A 16), .int (nI (v 17)), .int (nI (v 18)), .int (bI df)]))] h := hL
          have hL : stars [row a29 120 (rwM M i29), R29, pt d (.inr (1, [.int (nI (v 0)), .int (nI (v 1)), .int (nI (v 2)), .ref (A 3), .ref (A 4), .ref (A 5), .ref (A 6), .ref (A 7), .int (nI (v 8)), .ref (A 9), .ref (A 10), .ref (A 11), .ref (A 12), .ref (A 13), .ref (A 14), .ref (A 15), .ref (A 16), .int (nI (v 17)), .int (nI (v 18)), .int (bI df)])), row b cb q] h := stars_ixn hL 4 rfl [1, 2, 3, 0] (by decide) rfl
          refine e_istore 52 (ls' := [some (.ref d), some (.ref b), some (.int (nI i)), some (.int (nI p)), some (.ref a29), some (.int (nI (wd q (i + 3)))), some (.int (nI (wd q (i + 5)))), none]) dX6_writeFiles_50 rfl (by decide) rfl ?_
          refine e_iinc 55 (v := (nI (i + 7))) (ls' := [some (.ref d), some (.ref b), some (.int (nI (i + 7))), some (.int (nI p)), some (.ref a29), some (.int (nI (wd q (i + 3)))), some (.int (nI (wd q (i + 5)))), none]) dX6_writeFiles_52 rfl rfl (nI_add i 7) (by decide) rfl ?_
          refine e_iconst 56 (v := (nI 0)) dX6_writeFiles_55 rfl (by decide) ?_
          refine e_istore 58 (ls' := [some (.ref d), some (.ref b), some (.int (nI (i + 7))), some (.int (nI p)), some (.ref a29), some (.int (nI (wd q (i + 3)))), some (.int (nI (wd q (i + 5)))), some (.int (nI 0))]) dX6_writeFiles_56 rfl (by decide) rfl ?_
          refine l_X6_writeFiles_in hq (by omega) (by omega) (fun h hL => ?_) (wd q (i + 5) + 1) 0 h (by omega) (by omega) hL
          refine e_iload_n 97 dX6_writeFiles_96 rfl rfl ?_
          refine e_iconst 98 (v := (nI 2)) dX6_writeFiles_97 rfl (by decide) ?_
          refine e_iload 100 dX6_writeFiles_98 rfl rfl ?_
          refine e_imul 101 (v := (nI (2 * (wd q (i + 5))))) dX6_writeFiles_100 rfl (pk_mul 2 (wd q (i + 5))) ?_
          refine e_iadd 102 (v := (nI ((i + 7) + (2 * (wd q (i + 5)))))) dX6_writeFiles_101 rfl (nI_add (i + 7) (2 * (wd q (i + 5)))) ?_
          refine e_istore_n 103 (ls' := [some (.ref d), some (.ref b), some (.int (nI ((i + 7) + (2 * (wd q (i + 5)))))), some (.int (nI p)), some (.ref a29), some (.int (nI (wd q (i + 3)))), some (.int (nI (wd q (i + 5)))), some (.int (nI (wd q (i + 5))))]) dX6_writeFiles_102 rfl (by decide) rfl ?_
          refine e_iinc 106 (v := (nI (p + 1))) (ls' := [some (.ref d), some (.ref b), some (.int (nI ((i + 7) + (2 * (wd q (i + 5)))))), some (.int (nI (p + 1))), some (.ref a29), some (.int (nI (wd q (i + 3)))), some (.int (nI (wd q (i + 5)))), some (.int (nI (wd q (i + 5))))]) dX6_writeFiles_103 rfl rfl (nI_add p 1) (by decide) rfl ?_
          refine e_goto 4 dX6_writeFiles_106 rfl ?_
          have hL := hb29 _ _ _ hL
          have hL : stars [shf (A 9) 4 120 (stM M i29 (wvF q (wd q (i + 3)) (i + 7) (rwM M i29) (wd q (i + 5)))), pt d (.inr (1, [.int (nI (v 0)), .int (nI (v 1)), .int (nI (v 2)), .ref (A 3), .ref (A 4), .ref (A 5), .ref (A 6), .ref (A 7), .int (nI (v 8)), .ref (A 9), .ref (A 10), .ref (A 11), .ref (A 12), .ref (A 13), .ref (A 14), .ref (A 15), .ref (A 16), .int (nI (v 17)), .int (nI (v 18)), .int (bI df)])), row b cb q] h := hL
          have hL : stars [pt d (.inr (1, [.int (nI (v 0)), .int (nI (v 1)), .int (nI (v 2)), .ref (A 3), .ref (A 4), .ref (A 5), .ref (A 6), .ref (A 7), .int (nI (v 8)), .ref (A 9), .ref (A 10), .ref (A 11), .ref (A 12), .ref (A 13), .ref (A 14), .ref (A 15), .ref (A 16), .int (nI (v 17)), .int (nI (v 18)), .int (bI df)])), shf (A 9) 4 120 (stM M i29 (wvF q (wd q (i + 3)) (i + 7) (rwM M i29) (wd q (i + 5)))), row b cb q] h := stars_ixn hL 3 rfl [1, 0, 2] (by decide) rfl
          rw [show stM M i29 (wvF q (wd q (i + 3)) (i + 7) (rwM M i29) (wd q (i + 5))) = wfS q M i by simp only [wfS, hx29]] at hL
          refine e_wk [some (.ref d), some (.ref b), some (.int (nI (i + 7 + 2 * wd q (i + 5)))), some (.int (nI (p + 1))), none, none, none, none] ⟨rfl, rfl, rfl, rfl, trivial⟩ ?_
          exact ih (p + 1) t (i + 7 + 2 * wd q (i + 5)) (wfS q M i) h (by omega) (by omega) hw4.1 hw4.2 (by rw [← he, wfF, if_pos (by omega)]) hL
set_option maxRecDepth 20000 in
set_option maxHeartbeats 2000000 in
/-- writeFiles(device, q) -/
theorem k_X6_writeFiles {d b cb : Nat} {A v : Nat → Nat} {df : Bool} {M0 : List (Nat × List Nat)} {q : List Nat} (hq : ∀ x ∈ q, x < 256) (hl9 : q.length ≤ 253) (hw : wpE q 36 2 = q.length) : CA mX6_writeFiles [.ref d, .ref b] [dvO d A v df, shf (A 9) 4 120 M0, row b cb q] (fun r L => r = none ∧ L = [dvO d A v df, shf (A 9) 4 120 (wfF q 36 2 M0), row b cb q]) 1 40 0 0 := by
  refine CA.mk 6 (ls := [some (.ref d), some (.ref b), none, none, none, none, none, none]) rfl rfl (Nat.le_of_ble_eq_true rfl) rfl (fun h hL => ?_)
  refine e_iconst 1 (v := (nI 2)) dX6_writeFiles_0 rfl (by decide) ?_
  refine e_istore_n 2 (ls' := [some (.ref d), some (.ref b), some (.int (nI 2)), none, none, none, none, none]) dX6_writeFiles_1 rfl (by decide) rfl ?_
  refine e_iconst 3 (v := (nI 0)) dX6_writeFiles_2 rfl (by decide) ?_
  refine e_istore_n 4 (ls' := [some (.ref d), some (.ref b), some (.int (nI 2)), some (.int (nI 0)), none, none, none, none]) dX6_writeFiles_3 rfl (by decide) rfl ?_
  exact l_X6_writeFiles hq hl9 hw 37 0 36 2 M0 h (by omega) (by omega) (by have := wpE_ge (q := q) 36 2; omega) hw rfl hL
