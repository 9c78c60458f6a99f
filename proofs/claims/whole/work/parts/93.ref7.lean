/-! the reference: answers that fit -/
theorem bgn_succ {a q : List Nat} {i : Nat} (h1 : i + 1 ≤ a.length) (h2 : i + 1 ≤ q.length) : bgn a q (i + 1) = (bgn a q i && decide (q.getD i 0 = a.getD i 0)) := by
  unfold bgn
  rw [List.range_succ, List.all_append, List.all_cons, List.all_nil, Bool.and_true, decide_eq_true h1, decide_eq_true h2, decide_eq_true (show i ≤ a.length by omega), decide_eq_true (show i ≤ q.length by omega)]
  simp only [Bool.true_and]
  congr 1
  by_cases z : q.getD i 0 = a.getD i 0
  · rw [decide_eq_true z, z]; exact beq_self_eq_true _
  · rw [decide_eq_false z]
    simpa using fun y => z y.symm
theorem teF_big {a : List Nat} {k : Nat} (h : a.length < k) : ∀ t, teF a t k ≠ some a.length
  | 0 => fun z => by rw [teF] at z; have := Option.some.inj z; omega
  | t + 1 => fun z => by rw [teF, if_neg (by omega)] at z; cases z
theorem sh_told {q : List Nat} (h : shF q = 0) : (1 ≤ q.getD 0 0 ∧ q.getD 0 0 ≤ 8) ∨ q.getD 0 0 = 11 ∨ q.getD 0 0 = 12 ∨ (15 ≤ q.getD 0 0 ∧ q.getD 0 0 ≤ 17) ∨ (20 ≤ q.getD 0 0 ∧ q.getD 0 0 ≤ 24) ∨ q.getD 0 0 = 43 := by
  refine Decidable.byContradiction fun z => ?_
  rw [shF, if_neg (by omega), if_neg (by omega), if_neg (by omega), if_neg (by omega), if_neg (by omega), if_neg (by omega), if_neg (by omega), if_neg (by omega), if_neg (by omega), if_neg (by omega), if_neg (by omega), if_neg (by omega), if_neg (by omega)] at h
  cases h
theorem sh_8 {q : List Nat} (h0 : q.getD 0 0 = 8) (h : shF q = 0) : 3 ≤ q.length ∧ (wd q 1 = 0 ∨ q.length = 5) := by
  rw [shF, if_neg (by omega), if_neg (by omega), if_neg (by omega), if_neg (by omega), if_pos (by omega), dgF] at h
  revert h
  (repeat' split) <;> intro h <;> omega
set_option maxRecDepth 20000 in
set_option maxHeartbeats 2000000 in
theorem u_X15_isRefusal {a qn : Nat} {q : List Nat} {h : eH} (hR : iaR a qn q h) (hqn : qn < 100000) (hq : ∀ x ∈ q, x < 256) (h1 : 1 ≤ q.length) {f : Nat} (hf : f < 65536) : PC mX15_isRefusal [.ref a, .int (nI f)] h (some (.int (bI (decide (q.getD 0 0 = (f + 128) % 256))))) 0 0 := by
  have hle := hR.le
  refine PC.mk 0 (ls := [some (.ref a), some (.int (nI f))]) rfl rfl (Nat.le_of_ble_eq_true rfl) rfl ?_
  refine e_aload_n 1 dX15_isRefusal_0 rfl rfl ?_
  refine e_iconst 2 (v := (nI 0)) dX15_isRefusal_1 rfl (by decide) ?_
  have b2 := gd_lt (i := 0) hq (by decide)
  refine v_iald 3 hR (k := 0) (x := (q.getD 0 0)) dX15_isRefusal_2 rfl (by omega) (by omega) rfl ?_
  refine e_iload_n 4 dX15_isRefusal_3 rfl rfl ?_
  refine e_sipush 7 (v := (nI 128)) dX15_isRefusal_4 rfl (by decide) ?_
  refine e_iadd 8 (v := (nI (f + 128))) dX15_isRefusal_7 rfl (nI_add f 128) ?_
  refine e_sipush 11 (v := (nI 256)) dX15_isRefusal_8 rfl (by decide) ?_
  refine e_irem 12 (v := (nI ((f + 128) % 256))) dX15_isRefusal_11 rfl (by decide) (pk_rem (by omega) (by decide) (by decide)) ?_
  refine e_icmp_ne 19 15 dX15_isRefusal_12 rfl rfl (fun c12 => ?_) (fun c12 => ?_)
  · have k12 := j_ne_t (a := (q.getD 0 0)) (b := ((f + 128) % 256)) (by omega) (by omega) c12
    refine e_iconst 20 (v := (nI 0)) dX15_isRefusal_19 rfl (by decide) ?_
    exact e_zret dX15_isRefusal_20 rfl (Or.inl (by decide)) (by omega) (by omega) (⟨by rw [decide_eq_false (by omega)]; rfl, rfl⟩)
  · have k12 := j_ne_f (a := (q.getD 0 0)) (b := ((f + 128) % 256)) (by omega) (by omega) c12
    refine e_iconst 16 (v := (nI 1)) dX15_isRefusal_15 rfl (by decide) ?_
    refine e_goto 20 dX15_isRefusal_16 rfl ?_
    exact e_zret dX15_isRefusal_20 rfl (Or.inr (by decide)) (by omega) (by omega) (⟨by rw [decide_eq_true (by omega)]; rfl, rfl⟩)
set_option maxRecDepth 20000 in
set_option maxHeartbeats 2000000 in
theorem ul_isBegun {b qn a an : Nat} {q ar : List Nat} {h : eH} (hR : iaR b qn q h) (hqn : qn < 100000) (hq : ∀ x ∈ q, x < 256) (hA : iaR a an ar h) (han : an < 100000) (ha : ∀ x ∈ ar, x < 256) {m : Nat} (hm : m ≤ q.length) (hm2 : m ≤ ar.length) : ∀ (n : Nat) (i : Nat), m - i < n → i ≤ m → EE mX15_isBegun 0 0 0 0 (fun x9 h9 => x9 = some (.int (bI (bgn ar q m))) ∧ h9 = h) 5 [some (.ref b), some (.ref a), some (.int (nI m)), some (.int (bI (bgn ar q i))), some (.int (nI i))] [] h 0 0 := by
  intro n
  induction n with
  | zero => intro i hlt hi; exact absurd hlt (by omega)
  | succ n ih =>
    intro i hlt hi
    have hle := hR.le
    have hle2 := hA.le
    refine e_iload 7 dX15_isBegun_5 rfl rfl ?_
    refine e_iload_n 8 dX15_isBegun_7 rfl rfl ?_
    refine e_icmp_ge 38 11 dX15_isBegun_8 rfl rfl (fun c8 => ?_) (fun c8 => ?_)
    · have k8 := j_ge_t (a := i) (b := m) (by omega) (by omega) c8
      refine e_iload_n 39 dX15_isBegun_38 rfl rfl ?_
      exact e_zret dX15_isBegun_39 rfl (bI_01 _) (by omega) (by omega) (⟨by rw [show i = m by omega], rfl⟩)
    · have k8 := j_ge_f (a := i) (b := m) (by omega) (by omega) c8
      refine e_iload_n 12 dX15_isBegun_11 rfl rfl ?_
      refine e_if_eq 30 15 dX15_isBegun_12 rfl rfl (fun c12 => ?_) (fun c12 => ?_)
      · have k12 := jb_eq_t c12
        refine e_iconst 31 (v := (nI 0)) dX15_isBegun_30 rfl (by decide) ?_
        refine e_top (v' := (bI (bgn ar q (i + 1)))) (by rw [bgn_succ (by omega) (by omega), k12]; rfl) ?_
        refine e_istore_n 32 (ls' := [some (.ref b), some (.ref a), some (.int (nI m)), some (.int (bI (bgn ar q (i + 1)))), some (.int (nI i))]) dX15_isBegun_31 rfl (by decide) rfl ?_
        refine e_iinc 35 (v := (nI (i + 1))) (ls' := [some (.ref b), some (.ref a), some (.int (nI m)), some (.int (bI (bgn ar q (i + 1)))), some (.int (nI (i + 1)))]) dX15_isBegun_32 rfl rfl (nI_add i 1) (by decide) rfl ?_
        refine e_goto 5 dX15_isBegun_35 rfl ?_
        refine e_wk [some (.ref b), some (.ref a), some (.int (nI m)), some (.int (bI (bgn ar q (i + 1)))), some (.int (nI (i + 1)))] ⟨rfl, rfl, rfl, rfl, rfl, trivial⟩ ?_
        exact ih (i + 1) (by omega) (by omega)
      · have k12 := jb_eq_f c12
        refine e_aload_n 16 dX15_isBegun_15 rfl rfl ?_
        refine e_iload 18 dX15_isBegun_16 rfl rfl ?_
        have b18 := gd_lt (i := i) hq (by decide)
        refine v_iald 19 hR (k := i) (x := (q.getD i 0)) dX15_isBegun_18 rfl (by omega) (by omega) rfl ?_
        refine e_aload_n 20 dX15_isBegun_19 rfl rfl ?_
        refine e_iload 22 dX15_isBegun_20 rfl rfl ?_
        have b22 := gd_lt (i := i) ha (by decide)
        refine v_iald 23 hA (k := i) (x := (ar.getD i 0)) dX15_isBegun_22 rfl (by omega) (by omega) rfl ?_
        refine e_icmp_ne 30 26 dX15_isBegun_23 rfl rfl (fun c23 => ?_) (fun c23 => ?_)
        · have k23 := j_ne_t (a := (q.getD i 0)) (b := (ar.getD i 0)) (by omega) (by omega) c23
          refine e_iconst 31 (v := (nI 0)) dX15_isBegun_30 rfl (by decide) ?_
          refine e_top (v' := (bI (bgn ar q (i + 1)))) (by rw [bgn_succ (by omega) (by omega), k12, decide_eq_false (by omega)]; rfl) ?_
          refine e_istore_n 32 (ls' := [some (.ref b), some (.ref a), some (.int (nI m)), some (.int (bI (bgn ar q (i + 1)))), some (.int (nI i))]) dX15_isBegun_31 rfl (by decide) rfl ?_
          refine e_iinc 35 (v := (nI (i + 1))) (ls' := [some (.ref b), some (.ref a), some (.int (nI m)), some (.int (bI (bgn ar q (i + 1)))), some (.int (nI (i + 1)))]) dX15_isBegun_32 rfl rfl (nI_add i 1) (by decide) rfl ?_
          refine e_goto 5 dX15_isBegun_35 rfl ?_
          refine e_wk [some (.ref b), some (.ref a), some (.int (nI m)), some (.int (bI (bgn ar q (i + 1)))), some (.int (nI (i + 1)))] ⟨rfl, rfl, rfl, rfl, rfl, trivial⟩ ?_
          exact ih (i + 1) (by omega) (by omega)
        · have k23 := j_ne_f (a := (q.getD i 0)) (b := (ar.getD i 0)) (by omega) (by omega) c23
          refine e_iconst 27 (v := (nI 1)) dX15_isBegun_26 rfl (by decide) ?_
          refine e_goto 31 dX15_isBegun_27 rfl ?_
          refine e_top (v' := (bI (bgn ar q (i + 1)))) (by rw [bgn_succ (by omega) (by omega), k12, decide_eq_true (by omega)]; rfl) ?_
          refine e_istore_n 32 (ls' := [some (.ref b), some (.ref a), some (.int (nI m)), some (.int (bI (bgn ar q (i + 1)))), some (.int (nI i))]) dX15_isBegun_31 rfl (by decide) rfl ?_
          refine e_iinc 35 (v := (nI (i + 1))) (ls' := [some (.ref b), some (.ref a), some (.int (nI m)), some (.int (bI (bgn ar q (i + 1)))), some (.int (nI (i + 1)))]) dX15_isBegun_32 rfl rfl (nI_add i 1) (by decide) rfl ?_
          refine e_goto 5 dX15_isBegun_35 rfl ?_
          refine e_wk [some (.ref b), some (.ref a), some (.int (nI m)), some (.int (bI (bgn ar q (i + 1)))), some (.int (nI (i + 1)))] ⟨rfl, rfl, rfl, rfl, rfl, trivial⟩ ?_
          exact ih (i + 1) (by omega) (by omega)
set_option maxRecDepth 20000 in
set_option maxHeartbeats 2000000 in
theorem u_X15_isBegun {b qn a an : Nat} {q ar : List Nat} {h : eH} (hR : iaR b qn q h) (hqn : qn < 100000) (hq : ∀ x ∈ q, x < 256) (hA : iaR a an ar h) (han : an < 100000) (ha : ∀ x ∈ ar, x < 256) {m : Nat} (hm : m ≤ q.length) (hm2 : m ≤ ar.length) : PC mX15_isBegun [.ref b, .ref a, .int (nI m)] h (some (.int (bI (bgn ar q m)))) 0 0 := by
  refine PC.mk 2 (ls := [some (.ref b), some (.ref a), some (.int (nI m)), none, none]) rfl rfl (Nat.le_of_ble_eq_true rfl) rfl ?_
  refine e_iconst 1 (v := (nI 1)) dX15_isBegun_0 rfl (by decide) ?_
  refine e_istore_n 2 (ls' := [some (.ref b), some (.ref a), some (.int (nI m)), some (.int (nI 1)), none]) dX15_isBegun_1 rfl (by decide) rfl ?_
  refine e_iconst 3 (v := (nI 0)) dX15_isBegun_2 rfl (by decide) ?_
  refine e_istore 5 (ls' := [some (.ref b), some (.ref a), some (.int (nI m)), some (.int (nI 1)), some (.int (nI 0))]) dX15_isBegun_3 rfl (by decide) rfl ?_
  refine e_lc (ls' := [some (.ref b), some (.ref a), some (.int (nI m)), some (.int (bI (bgn ar q 0))), some (.int (nI 0))]) (by rw [bgn_t (Nat.zero_le _) (Nat.zero_le _) (fun i hi => absurd hi (Nat.not_lt_zero i))]; rfl) ?_
  exact ul_isBegun hR hqn hq hA han ha hm hm2 _ 0 (Nat.lt_succ_self _) (Nat.zero_le _)
set_option maxRecDepth 20000 in
set_option maxHeartbeats 2000000 in
theorem ul_doPartsFit {b qn a an : Nat} {q ar : List Nat} {h : eH} (hR : iaR b qn q h) (hqn : qn < 100000) (hq : ∀ x ∈ q, x < 256) (hA : iaR a an ar h) (han : an < 100000) (ha : ∀ x ∈ ar, x < 256) {T : Nat} (h7 : q.length = 2 + 7 * T) (hl9 : q.length ≤ 70000 ∧ ar.length ≤ 70000) : ∀ (n : Nat) (t j k : Nat), t < n → j + t = T → k ≤ ar.length + 2 → ptF q ar t j k = (ptF q ar T 0 2) → EE mX15_doPartsFit 1 22 0 0 (fun x9 h9 => x9 = some (.int (bI (ptF q ar T 0 2))) ∧ h9 = h) 9 [some (.ref b), some (.int (nI q.length)), some (.ref a), some (.int (nI ar.length)), some (.int (nI k)), some (.int (nI 1)), some (.int (nI (2 + 7 * j))), none] [] h 0 0 := by
  intro n
  induction n with
  | zero => intro t j k hlt hjt hk he; exact absurd hlt (by omega)
  | succ n ih =>
    intro t j k hlt hjt hk he
    have hle := hR.le
    have hle2 := hA.le
    have hwj := wd_lt (k := 2 + 7 * j + 5) hq
    refine e_iload 11 dX15_doPartsFit_9 rfl rfl ?_
    refine e_iload_n 12 dX15_doPartsFit_11 rfl rfl ?_
    refine e_icmp_ge 91 15 dX15_doPartsFit_12 rfl rfl (fun c12 => ?_) (fun c12 => ?_)
    · have k12 := j_ge_t (a := (2 + 7 * j)) (b := q.length) (by omega) (by omega) c12
      refine e_iload 93 dX15_doPartsFit_91 rfl rfl ?_
      refine e_if_eq 106 96 dX15_doPartsFit_93 rfl rfl (fun c93 => absurd c93 (by decide)) (fun c93 => ?_)
      refine e_iload 98 dX15_doPartsFit_96 rfl rfl ?_
      refine e_iload_n 99 dX15_doPartsFit_98 rfl rfl ?_
      refine e_icmp_ne 106 102 dX15_doPartsFit_99 rfl rfl (fun c99 => ?_) (fun c99 => ?_)
      · have k99 := j_ne_t (a := k) (b := ar.length) (by omega) (by omega) c99
        refine e_iconst 107 (v := (nI 0)) dX15_doPartsFit_106 rfl (by decide) ?_
        exact e_zret dX15_doPartsFit_107 rfl (Or.inl (by decide)) (by omega) (by omega) (⟨by rw [← he, show t = 0 by omega, ptF, decide_eq_false (by omega)]; rfl, rfl⟩)
      · have k99 := j_ne_f (a := k) (b := ar.length) (by omega) (by omega) c99
        refine e_iconst 103 (v := (nI 1)) dX15_doPartsFit_102 rfl (by decide) ?_
        refine e_goto 107 dX15_doPartsFit_103 rfl ?_
        exact e_zret dX15_doPartsFit_107 rfl (Or.inr (by decide)) (by omega) (by omega) (⟨by rw [← he, show t = 0 by omega, ptF, decide_eq_true (by omega)]; rfl, rfl⟩)
    · have k12 := j_ge_f (a := (2 + 7 * j)) (b := q.length) (by omega) (by omega) c12
      refine e_iload 17 dX15_doPartsFit_15 rfl rfl ?_
      refine e_if_eq 91 20 dX15_doPartsFit_17 rfl rfl (fun c17 => absurd c17 (by decide)) (fun c17 => ?_)
      refine e_aload_n 21 dX15_doPartsFit_20 rfl rfl ?_
      refine e_iload 23 dX15_doPartsFit_21 rfl rfl ?_
      refine e_iconst 24 (v := (nI 5)) dX15_doPartsFit_23 rfl (by decide) ?_
      refine e_iadd 25 (v := (nI ((2 + 7 * j) + 5))) dX15_doPartsFit_24 rfl (nI_add (2 + 7 * j) 5) ?_
      refine u_callS 28 dX15_doPartsFit_25 rfl cs_X15_85 (u_X15_two hR (k := ((2 + 7 * j) + 5)) (by omega) (by omega)) rfl rfl (Nat.le_of_ble_eq_true rfl) (by decide) ⟨by omega, by omega⟩ ?_
      have w25 := wd_lt (k := ((2 + 7 * j) + 5)) hq
      refine e_istore 30 (ls' := [some (.ref b), some (.int (nI q.length)), some (.ref a), some (.int (nI ar.length)), some (.int (nI k)), some (.int (nI 1)), some (.int (nI (2 + 7 * j))), some (.int (nI (wd q ((2 + 7 * j) + 5))))]) dX15_doPartsFit_28 rfl (by decide) rfl ?_
      refine e_iload 32 dX15_doPartsFit_30 rfl rfl ?_
      refine e_iconst 33 (v := (nI 2)) dX15_doPartsFit_32 rfl (by decide) ?_
      refine e_iadd 34 (v := (nI (k + 2))) dX15_doPartsFit_33 rfl (nI_add k 2) ?_
      refine e_iconst 35 (v := (nI 2)) dX15_doPartsFit_34 rfl (by decide) ?_
      refine e_iload 37 dX15_doPartsFit_35 rfl rfl ?_
      refine e_imul 38 (v := (nI (2 * (wd q ((2 + 7 * j) + 5))))) dX15_doPartsFit_37 rfl (pk_mul 2 (wd q ((2 + 7 * j) + 5))) ?_
      refine e_iadd 39 (v := (nI ((k + 2) + (2 * (wd q ((2 + 7 * j) + 5)))))) dX15_doPartsFit_38 rfl (nI_add (k + 2) (2 * (wd q ((2 + 7 * j) + 5)))) ?_
      refine e_iload_n 40 dX15_doPartsFit_39 rfl rfl ?_
      refine e_icmp_gt 71 43 dX15_doPartsFit_40 rfl rfl (fun c40 => ?_) (fun c40 => ?_)
      · have k40 := j_gt_t (a := ((k + 2) + (2 * (wd q ((2 + 7 * j) + 5))))) (b := ar.length) (by omega) (by omega) c40
        refine e_iconst 72 (v := (nI 0)) dX15_doPartsFit_71 rfl (by decide) ?_
        refine e_istore 74 (ls' := [some (.ref b), some (.int (nI q.length)), some (.ref a), some (.int (nI ar.length)), some (.int (nI k)), some (.int (nI 0)), some (.int (nI (2 + 7 * j))), some (.int (nI (wd q ((2 + 7 * j) + 5))))]) dX15_doPartsFit_72 rfl (by decide) rfl ?_
        refine e_iload 76 dX15_doPartsFit_74 rfl rfl ?_
        refine e_iconst 77 (v := (nI 2)) dX15_doPartsFit_76 rfl (by decide) ?_
        refine e_iconst 78 (v := (nI 2)) dX15_doPartsFit_77 rfl (by decide) ?_
        refine e_iload 80 dX15_doPartsFit_78 rfl rfl ?_
        refine e_imul 81 (v := (nI (2 * (wd q ((2 + 7 * j) + 5))))) dX15_doPartsFit_80 rfl (pk_mul 2 (wd q ((2 + 7 * j) + 5))) ?_
        refine e_iadd 82 (v := (nI (2 + (2 * (wd q ((2 + 7 * j) + 5)))))) dX15_doPartsFit_81 rfl (nI_add 2 (2 * (wd q ((2 + 7 * j) + 5)))) ?_
        refine e_iadd 83 (v := (nI (k + (2 + (2 * (wd q ((2 + 7 * j) + 5))))))) dX15_doPartsFit_82 rfl (nI_add k (2 + (2 * (wd q ((2 + 7 * j) + 5))))) ?_
        refine e_istore 85 (ls' := [some (.ref b), some (.int (nI q.length)), some (.ref a), some (.int (nI ar.length)), some (.int (nI (k + (2 + (2 * (wd q ((2 + 7 * j) + 5))))))), some (.int (nI 0)), some (.int (nI (2 + 7 * j))), some (.int (nI (wd q ((2 + 7 * j) + 5))))]) dX15_doPartsFit_83 rfl (by decide) rfl ?_
        refine e_iinc 88 (v := (nI ((2 + 7 * j) + 7))) (ls' := [some (.ref b), some (.int (nI q.length)), some (.ref a), some (.int (nI ar.length)), some (.int (nI (k + (2 + (2 * (wd q ((2 + 7 * j) + 5))))))), some (.int (nI 0)), some (.int (nI ((2 + 7 * j) + 7))), some (.int (nI (wd q ((2 + 7 * j) + 5))))]) dX15_doPartsFit_85 rfl rfl (nI_add (2 + 7 * j) 7) (by decide) rfl ?_
        refine e_goto 9 dX15_doPartsFit_88 rfl ?_
        refine e_iload 11 dX15_doPartsFit_9 rfl rfl ?_
        refine e_iload_n 12 dX15_doPartsFit_11 rfl rfl ?_
        refine e_icmp_ge 91 15 dX15_doPartsFit_12 rfl rfl (fun c12 => ?_) (fun c12 => ?_)
        · have k12 := j_ge_t (a := ((2 + 7 * j) + 7)) (b := q.length) (by omega) (by omega) c12
          refine e_iload 93 dX15_doPartsFit_91 rfl rfl ?_
          refine e_if_eq 106 96 dX15_doPartsFit_93 rfl rfl (fun c93 => ?_) (fun c93 => absurd c93 (by decide))
          refine e_iconst 107 (v := (nI 0)) dX15_doPartsFit_106 rfl (by decide) ?_
          exact e_zret dX15_doPartsFit_107 rfl (Or.inl (by decide)) (by omega) (by omega) (⟨by rw [show (ptF q ar T 0 2) = false by (rw [← he, show t = t - 1 + 1 by omega, ptF, if_neg (by omega)])]; rfl, rfl⟩)
        · have k12 := j_ge_f (a := ((2 + 7 * j) + 7)) (b := q.length) (by omega) (by omega) c12
          refine e_iload 17 dX15_doPartsFit_15 rfl rfl ?_
          refine e_if_eq 91 20 dX15_doPartsFit_17 rfl rfl (fun c17 => ?_) (fun c17 => absurd c17 (by decide))
          refine e_iload 93 dX15_doPartsFit_91 rfl rfl ?_
          refine e_if_eq 106 96 dX15_doPartsFit_93 rfl rfl (fun c93 => ?_) (fun c93 => absurd c93 (by decide))
          refine e_iconst 107 (v := (nI 0)) dX15_doPartsFit_106 rfl (by decide) ?_
          exact e_zret dX15_doPartsFit_107 rfl (Or.inl (by decide)) (by omega) (by omega) (⟨by rw [show (ptF q ar T 0 2) = false by (rw [← he, show t = t - 1 + 1 by omega, ptF, if_neg (by omega)])]; rfl, rfl⟩)
      · have k40 := j_gt_f (a := ((k + 2) + (2 * (wd q ((2 + 7 * j) + 5))))) (b := ar.length) (by omega) (by omega) c40
        refine e_aload_n 44 dX15_doPartsFit_43 rfl rfl ?_
        refine e_iload 46 dX15_doPartsFit_44 rfl rfl ?_
        have b46 := gd_lt (i := k) ha (by decide)
        refine v_iald 47 hA (k := k) (x := (ar.getD k 0)) dX15_doPartsFit_46 rfl (by omega) (by omega) rfl ?_
        refine e_iconst 48 (v := (nI 1)) dX15_doPartsFit_47 rfl (by decide) ?_
        refine e_iconst 49 (v := (nI 2)) dX15_doPartsFit_48 rfl (by decide) ?_
        refine e_iload 51 dX15_doPartsFit_49 rfl rfl ?_
        refine e_imul 52 (v := (nI (2 * (wd q ((2 + 7 * j) + 5))))) dX15_doPartsFit_51 rfl (pk_mul 2 (wd q ((2 + 7 * j) + 5))) ?_
        refine e_iadd 53 (v := (nI (1 + (2 * (wd q ((2 + 7 * j) + 5)))))) dX15_doPartsFit_52 rfl (nI_add 1 (2 * (wd q ((2 + 7 * j) + 5)))) ?_
        refine e_icmp_ne 71 56 dX15_doPartsFit_53 rfl rfl (fun c53 => ?_) (fun c53 => ?_)
        · have k53 := j_ne_t (a := (ar.getD k 0)) (b := (1 + (2 * (wd q ((2 + 7 * j) + 5))))) (by omega) (by omega) c53
          refine e_iconst 72 (v := (nI 0)) dX15_doPartsFit_71 rfl (by decide) ?_
          refine e_istore 74 (ls' := [some (.ref b), some (.int (nI q.length)), some (.ref a), some (.int (nI ar.length)), some (.int (nI k)), some (.int (nI 0)), some (.int (nI (2 + 7 * j))), some (.int (nI (wd q ((2 + 7 * j) + 5))))]) dX15_doPartsFit_72 rfl (by decide) rfl ?_
          refine e_iload 76 dX15_doPartsFit_74 rfl rfl ?_
          refine e_iconst 77 (v := (nI 2)) dX15_doPartsFit_76 rfl (by decide) ?_
          refine e_iconst 78 (v := (nI 2)) dX15_doPartsFit_77 rfl (by decide) ?_
          refine e_iload 80 dX15_doPartsFit_78 rfl rfl ?_
          refine e_imul 81 (v := (nI (2 * (wd q ((2 + 7 * j) + 5))))) dX15_doPartsFit_80 rfl (pk_mul 2 (wd q ((2 + 7 * j) + 5))) ?_
          refine e_iadd 82 (v := (nI (2 + (2 * (wd q ((2 + 7 * j) + 5)))))) dX15_doPartsFit_81 rfl (nI_add 2 (2 * (wd q ((2 + 7 * j) + 5)))) ?_
          refine e_iadd 83 (v := (nI (k + (2 + (2 * (wd q ((2 + 7 * j) + 5))))))) dX15_doPartsFit_82 rfl (nI_add k (2 + (2 * (wd q ((2 + 7 * j) + 5))))) ?_
          refine e_istore 85 (ls' := [some (.ref b), some (.int (nI q.length)), some (.ref a), some (.int (nI ar.length)), some (.int (nI (k + (2 + (2 * (wd q ((2 + 7 * j) + 5))))))), some (.int (nI 0)), some (.int (nI (2 + 7 * j))), some (.int (nI (wd q ((2 + 7 * j) + 5))))]) dX15_doPartsFit_83 rfl (by decide) rfl ?_
          refine e_iinc 88 (v := (nI ((2 + 7 * j) + 7))) (ls' := [some (.ref b), some (.int (nI q.length)), some (.ref a), some (.int (nI ar.length)), some (.int (nI (k + (2 + (2 * (wd q ((2 + 7 * j) + 5))))))), some (.int (nI 0)), some (.int (nI ((2 + 7 * j) + 7))), some (.int (nI (wd q ((2 + 7 * j) + 5))))]) dX15_doPartsFit_85 rfl rfl (nI_add (2 + 7 * j) 7) (by decide) rfl ?_
          refine e_goto 9 dX15_doPartsFit_88 rfl ?_
          refine e_iload 11 dX15_doPartsFit_9 rfl rfl ?_
          refine e_iload_n 12 dX15_doPartsFit_11 rfl rfl ?_
          refine e_icmp_ge 91 15 dX15_doPartsFit_12 rfl rfl (fun c12 => ?_) (fun c12 => ?_)
          · have k12 := j_ge_t (a := ((2 + 7 * j) + 7)) (b := q.length) (by omega) (by omega) c12
            refine e_iload 93 dX15_doPartsFit_91 rfl rfl ?_
            refine e_if_eq 106 96 dX15_doPartsFit_93 rfl rfl (fun c93 => ?_) (fun c93 => absurd c93 (by decide))
            refine e_iconst 107 (v := (nI 0)) dX15_doPartsFit_106 rfl (by decide) ?_
            exact e_zret dX15_doPartsFit_107 rfl (Or.inl (by decide)) (by omega) (by omega) (⟨by rw [show (ptF q ar T 0 2) = false by (rw [← he, show t = t - 1 + 1 by omega, ptF, if_neg (by omega)])]; rfl, rfl⟩)
          · have k12 := j_ge_f (a := ((2 + 7 * j) + 7)) (b := q.length) (by omega) (by omega) c12
            refine e_iload 17 dX15_doPartsFit_15 rfl rfl ?_
            refine e_if_eq 91 20 dX15_doPartsFit_17 rfl rfl (fun c17 => ?_) (fun c17 => absurd c17 (by decide))
            refine e_iload 93 dX15_doPartsFit_91 rfl rfl ?_
            refine e_if_eq 106 96 dX15_doPartsFit_93 rfl rfl (fun c93 => ?_) (fun c93 => absurd c93 (by decide))
            refine e_iconst 107 (v := (nI 0)) dX15_doPartsFit_106 rfl (by decide) ?_
            exact e_zret dX15_doPartsFit_107 rfl (Or.inl (by decide)) (by omega) (by omega) (⟨by rw [show (ptF q ar T 0 2) = false by (rw [← he, show t = t - 1 + 1 by omega, ptF, if_neg (by omega)])]; rfl, rfl⟩)
        · have k53 := j_ne_f (a := (ar.getD k 0)) (b := (1 + (2 * (wd q ((2 + 7 * j) + 5))))) (by omega) (by omega) c53
          refine e_aload_n 57 dX15_doPartsFit_56 rfl rfl ?_
          refine e_iload 59 dX15_doPartsFit_57 rfl rfl ?_
          refine e_iconst 60 (v := (nI 1)) dX15_doPartsFit_59 rfl (by decide) ?_
          refine e_iadd 61 (v := (nI (k + 1))) dX15_doPartsFit_60 rfl (nI_add k 1) ?_
          have b61 := gd_lt (i := (k + 1)) ha (by decide)
          refine v_iald 62 hA (k := (k + 1)) (x := (ar.getD (k + 1) 0)) dX15_doPartsFit_61 rfl (by omega) (by omega) rfl ?_
          refine e_bipush 64 (v := (nI 6)) dX15_doPartsFit_62 rfl (by decide) ?_
          refine e_icmp_ne 71 67 dX15_doPartsFit_64 rfl rfl (fun c64 => ?_) (fun c64 => ?_)
          · have k64 := j_ne_t (a := (ar.getD (k + 1) 0)) (b := 6) (by omega) (by omega) c64
            refine e_iconst 72 (v := (nI 0)) dX15_doPartsFit_71 rfl (by decide) ?_
            refine e_istore 74 (ls' := [some (.ref b), some (.int (nI q.length)), some (.ref a), some (.int (nI ar.length)), some (.int (nI k)), some (.int (nI 0)), some (.int (nI (2 + 7 * j))), some (.int (nI (wd q ((2 + 7 * j) + 5))))]) dX15_doPartsFit_72 rfl (by decide) rfl ?_
            refine e_iload 76 dX15_doPartsFit_74 rfl rfl ?_
            refine e_iconst 77 (v := (nI 2)) dX15_doPartsFit_76 rfl (by decide) ?_
            refine e_iconst 78 (v := (nI 2)) dX15_doPartsFit_77 rfl (by decide) ?_
            refine e_iload 80 dX15_doPartsFit_78 rfl rfl ?_
            refine e_imul 81 (v := (nI (2 * (wd q ((2 + 7 * j) + 5))))) dX15_doPartsFit_80 rfl (pk_mul 2 (wd q ((2 + 7 * j) + 5))) ?_
            refine e_iadd 82 (v := (nI (2 + (2 * (wd q ((2 + 7 * j) + 5)))))) dX15_doPartsFit_81 rfl (nI_add 2 (2 * (wd q ((2 + 7 * j) + 5)))) ?_
            refine e_iadd 83 (v := (nI (k + (2 + (2 * (wd q ((2 + 7 * j) + 5))))))) dX15_doPartsFit_82 rfl (nI_add k (2 + (2 * (wd q ((2 + 7 * j) + 5))))) ?_
            refine e_istore 85 (ls' := [some (.ref b), some (.int (nI q.length)), some (.ref a), some (.int (nI ar.length)), some (.int (nI (k + (2 + (2 * (wd q ((2 + 7 * j) + 5))))))), some (.int (nI 0)), some (.int (nI (2 + 7 * j))), some (.int (nI (wd q ((2 + 7 * j) + 5))))]) dX15_doPartsFit_83 rfl (by decide) rfl ?_
            refine e_iinc 88 (v := (nI ((2 + 7 * j) + 7))) (ls' := [some (.ref b), some (.int (nI q.length)), some (.ref a), some (.int (nI ar.length)), some (.int (nI (k + (2 + (2 * (wd q ((2 + 7 * j) + 5))))))), some (.int (nI 0)), some (.int (nI ((2 + 7 * j) + 7))), some (.int (nI (wd q ((2 + 7 * j) + 5))))]) dX15_doPartsFit_85 rfl rfl (nI_add (2 + 7 * j) 7) (by decide) rfl ?_
            refine e_goto 9 dX15_doPartsFit_88 rfl ?_
            refine e_iload 11 dX15_doPartsFit_9 rfl rfl ?_
            refine e_iload_n 12 dX15_doPartsFit_11 rfl rfl ?_
            refine e_icmp_ge 91 15 dX15_doPartsFit_12 rfl rfl (fun c12 => ?_) (fun c12 => ?_)
            · have k12 := j_ge_t (a := ((2 + 7 * j) + 7)) (b := q.length) (by omega) (by omega) c12
              refine e_iload 93 dX15_doPartsFit_91 rfl rfl ?_
              refine e_if_eq 106 96 dX15_doPartsFit_93 rfl rfl (fun c93 => ?_) (fun c93 => absurd c93 (by decide))
              refine e_iconst 107 (v := (nI 0)) dX15_doPartsFit_106 rfl (by decide) ?_
              exact e_zret dX15_doPartsFit_107 rfl (Or.inl (by decide)) (by omega) (by omega) (⟨by rw [show (ptF q ar T 0 2) = false by (rw [← he, show t = t - 1 + 1 by omega, ptF, if_neg (by omega)])]; rfl, rfl⟩)
            · have k12 := j_ge_f (a := ((2 + 7 * j) + 7)) (b := q.length) (by omega) (by omega) c12
              refine e_iload 17 dX15_doPartsFit_15 rfl rfl ?_
              refine e_if_eq 91 20 dX15_doPartsFit_17 rfl rfl (fun c17 => ?_) (fun c17 => absurd c17 (by decide))
              refine e_iload 93 dX15_doPartsFit_91 rfl rfl ?_
              refine e_if_eq 106 96 dX15_doPartsFit_93 rfl rfl (fun c93 => ?_) (fun c93 => absurd c93 (by decide))
              refine e_iconst 107 (v := (nI 0)) dX15_doPartsFit_106 rfl (by decide) ?_
              exact e_zret dX15_doPartsFit_107 rfl (Or.inl (by decide)) (by omega) (by omega) (⟨by rw [show (ptF q ar T 0 2) = false by (rw [← he, show t = t - 1 + 1 by omega, ptF, if_neg (by omega)])]; rfl, rfl⟩)
          · have k64 := j_ne_f (a := (ar.getD (k + 1) 0)) (b := 6) (by omega) (by omega) c64
            refine e_iconst 68 (v := (nI 1)) dX15_doPartsFit_67 rfl (by decide) ?_
            refine e_goto 72 dX15_doPartsFit_68 rfl ?_
            refine e_istore 74 (ls' := [some (.ref b), some (.int (nI q.length)), some (.ref a), some (.int (nI ar.length)), some (.int (nI k)), some (.int (nI 1)), some (.int (nI (2 + 7 * j))), some (.int (nI (wd q ((2 + 7 * j) + 5))))]) dX15_doPartsFit_72 rfl (by decide) rfl ?_
            refine e_iload 76 dX15_doPartsFit_74 rfl rfl ?_
            refine e_iconst 77 (v := (nI 2)) dX15_doPartsFit_76 rfl (by decide) ?_
            refine e_iconst 78 (v := (nI 2)) dX15_doPartsFit_77 rfl (by decide) ?_
            refine e_iload 80 dX15_doPartsFit_78 rfl rfl ?_
            refine e_imul 81 (v := (nI (2 * (wd q ((2 + 7 * j) + 5))))) dX15_doPartsFit_80 rfl (pk_mul 2 (wd q ((2 + 7 * j) + 5))) ?_
            refine e_iadd 82 (v := (nI (2 + (2 * (wd q ((2 + 7 * j) + 5)))))) dX15_doPartsFit_81 rfl (nI_add 2 (2 * (wd q ((2 + 7 * j) + 5)))) ?_
            refine e_iadd 83 (v := (nI (k + (2 + (2 * (wd q ((2 + 7 * j) + 5))))))) dX15_doPartsFit_82 rfl (nI_add k (2 + (2 * (wd q ((2 + 7 * j) + 5))))) ?_
            refine e_istore 85 (ls' := [some (.ref b), some (.int (nI q.length)), some (.ref a), some (.int (nI ar.length)), some (.int (nI (k + (2 + (2 * (wd q ((2 + 7 * j) + 5))))))), some (.int (nI 1)), some (.int (nI (2 + 7 * j))), some (.int (nI (wd q ((2 + 7 * j) + 5))))]) dX15_doPartsFit_83 rfl (by decide) rfl ?_
            refine e_iinc 88 (v := (nI ((2 + 7 * j) + 7))) (ls' := [some (.ref b), some (.int (nI q.length)), some (.ref a), some (.int (nI ar.length)), some (.int (nI (k + (2 + (2 * (wd q ((2 + 7 * j) + 5))))))), some (.int (nI 1)), some (.int (nI ((2 + 7 * j) + 7))), some (.int (nI (wd q ((2 + 7 * j) + 5))))]) dX15_doPartsFit_85 rfl rfl (nI_add (2 + 7 * j) 7) (by decide) rfl ?_
            refine e_goto 9 dX15_doPartsFit_88 rfl ?_
            obtain ⟨t, rfl⟩ : ∃ t1, t = t1 + 1 := ⟨t - 1, by omega⟩
            refine e_wk [some (.ref b), some (.int (nI q.length)), some (.ref a), some (.int (nI ar.length)), some (.int (nI (k + (2 + 2 * wd q (2 + 7 * j + 5))))), some (.int (nI 1)), some (.int (nI (2 + 7 * (j + 1)))), none] ⟨rfl, rfl, rfl, rfl, rfl, rfl, by rw [show 2 + 7 * (j + 1) = 2 + 7 * j + 7 by omega], trivial⟩ ?_
            exact ih t (j + 1) (k + (2 + 2 * wd q (2 + 7 * j + 5))) (by omega) (by omega) (by omega) (by rw [← he, ptF, if_pos ⟨by omega, by omega, by omega⟩])
set_option maxRecDepth 20000 in
set_option maxHeartbeats 2000000 in
theorem u_X15_doPartsFit {b qn a an : Nat} {q ar : List Nat} {h : eH} (hR : iaR b qn q h) (hqn : qn < 100000) (hq : ∀ x ∈ q, x < 256) (hA : iaR a an ar h) (han : an < 100000) (ha : ∀ x ∈ ar, x < 256) {T : Nat} (h7 : q.length = 2 + 7 * T) (hl9 : q.length ≤ 70000 ∧ ar.length ≤ 70000) : PC mX15_doPartsFit [.ref b, .int (nI q.length), .ref a, .int (nI ar.length)] h (some (.int (bI (ptF q ar T 0 2)))) 1 22 := by
  refine PC.mk 4 (ls := [some (.ref b), some (.int (nI q.length)), some (.ref a), some (.int (nI ar.length)), none, none, none, none]) rfl rfl (Nat.le_of_ble_eq_true rfl) rfl ?_
  refine e_iconst 1 (v := (nI 2)) dX15_doPartsFit_0 rfl (by decide) ?_
  refine e_istore 3 (ls' := [some (.ref b), some (.int (nI q.length)), some (.ref a), some (.int (nI ar.length)), some (.int (nI 2)), none, none, none]) dX15_doPartsFit_1 rfl (by decide) rfl ?_
  refine e_iconst 4 (v := (nI 1)) dX15_doPartsFit_3 rfl (by decide) ?_
  refine e_istore 6 (ls' := [some (.ref b), some (.int (nI q.length)), some (.ref a), some (.int (nI ar.length)), some (.int (nI 2)), some (.int (nI 1)), none, none]) dX15_doPartsFit_4 rfl (by decide) rfl ?_
  refine e_iconst 7 (v := (nI 2)) dX15_doPartsFit_6 rfl (by decide) ?_
  refine e_istore 9 (ls' := [some (.ref b), some (.int (nI q.length)), some (.ref a), some (.int (nI ar.length)), some (.int (nI 2)), some (.int (nI 1)), some (.int (nI 2)), none]) dX15_doPartsFit_7 rfl (by decide) rfl ?_
  refine e_wk [some (.ref b), some (.int (nI q.length)), some (.ref a), some (.int (nI ar.length)), some (.int (nI 2)), some (.int (nI 1)), some (.int (nI (2 + 7 * 0))), none] ⟨rfl, rfl, rfl, rfl, rfl, rfl, rfl, trivial⟩ ?_
  exact ul_doPartsFit hR hqn hq hA han ha h7 hl9 (T + 1) T 0 2 (by omega) (by omega) (by omega) rfl
set_option maxRecDepth 20000 in
set_option maxHeartbeats 2000000 in
theorem ul_doNamesFit {a an : Nat} {ar : List Nat} {h : eH} (hA : iaR a an ar h) (han : an < 100000) (ha : ∀ x ∈ ar, x < 256) (h7 : 7 ≤ ar.length) : ∀ (n : Nat) (t j k : Nat), t < n → j + t = ar.getD 6 0 → k ≤ ar.length → teF ar t k = teF ar (ar.getD 6 0) 7 → EE mX15_doNamesFit 0 0 0 0 (fun x9 h9 => x9 = some (.int (bI (decide (teF ar (ar.getD 6 0) 7 = some ar.length)))) ∧ h9 = h) 8 [some (.ref a), some (.int (nI ar.length)), some (.int (nI k)), some (.int (nI 1)), some (.int (nI j))] [] h 0 0 := by
  intro n
  induction n with
  | zero => intro t j k hlt hjt hk he; exact absurd hlt (by omega)
  | succ n ih =>
    intro t j k hlt hjt hk he
    have hle2 := hA.le
    refine e_iload 10 dX15_doNamesFit_8 rfl rfl ?_
    refine e_aload_n 11 dX15_doNamesFit_10 rfl rfl ?_
    refine e_bipush 13 (v := (nI 6)) dX15_doNamesFit_11 rfl (by decide) ?_
    have b13 := gd_lt (i := 6) ha (by decide)
    refine v_iald 14 hA (k := 6) (x := (ar.getD 6 0)) dX15_doNamesFit_13 rfl (by omega) (by omega) rfl ?_
    refine e_icmp_ge 67 17 dX15_doNamesFit_14 rfl rfl (fun c14 => ?_) (fun c14 => ?_)
    · have k14 := j_ge_t (a := j) (b := (ar.getD 6 0)) (by omega) (by omega) c14
      refine e_iload_n 68 dX15_doNamesFit_67 rfl rfl ?_
      refine e_if_eq 80 71 dX15_doNamesFit_68 rfl rfl (fun c68 => absurd c68 (by decide)) (fun c68 => ?_)
      refine e_iload_n 72 dX15_doNamesFit_71 rfl rfl ?_
      refine e_iload_n 73 dX15_doNamesFit_72 rfl rfl ?_
      refine e_icmp_ne 80 76 dX15_doNamesFit_73 rfl rfl (fun c73 => ?_) (fun c73 => ?_)
      · have k73 := j_ne_t (a := k) (b := ar.length) (by omega) (by omega) c73
        refine e_iconst 81 (v := (nI 0)) dX15_doNamesFit_80 rfl (by decide) ?_
        exact e_zret dX15_doNamesFit_81 rfl (Or.inl (by decide)) (by omega) (by omega) (⟨by rw [← he, show t = 0 by omega, teF, decide_eq_false (fun z => by have := Option.some.inj z; omega)]; rfl, rfl⟩)
      · have k73 := j_ne_f (a := k) (b := ar.length) (by omega) (by omega) c73
        refine e_iconst 77 (v := (nI 1)) dX15_doNamesFit_76 rfl (by decide) ?_
        refine e_goto 81 dX15_doNamesFit_77 rfl ?_
        exact e_zret dX15_doNamesFit_81 rfl (Or.inr (by decide)) (by omega) (by omega) (⟨by rw [← he, show t = 0 by omega, teF, decide_eq_true (by rw [show k = ar.length by omega])]; rfl, rfl⟩)
    · have k14 := j_ge_f (a := j) (b := (ar.getD 6 0)) (by omega) (by omega) c14
      refine e_iload_n 18 dX15_doNamesFit_17 rfl rfl ?_
      refine e_if_eq 67 21 dX15_doNamesFit_18 rfl rfl (fun c18 => absurd c18 (by decide)) (fun c18 => ?_)
      refine e_iload_n 22 dX15_doNamesFit_21 rfl rfl ?_
      refine e_iconst 23 (v := (nI 2)) dX15_doNamesFit_22 rfl (by decide) ?_
      refine e_iadd 24 (v := (nI (k + 2))) dX15_doNamesFit_23 rfl (nI_add k 2) ?_
      refine e_iload_n 25 dX15_doNamesFit_24 rfl rfl ?_
      refine e_icmp_gt 45 28 dX15_doNamesFit_25 rfl rfl (fun c25 => ?_) (fun c25 => ?_)
      · have k25 := j_gt_t (a := (k + 2)) (b := ar.length) (by omega) (by omega) c25
        refine e_iconst 46 (v := (nI 0)) dX15_doNamesFit_45 rfl (by decide) ?_
        refine e_istore_n 47 (ls' := [some (.ref a), some (.int (nI ar.length)), some (.int (nI k)), some (.int (nI 0)), some (.int (nI j))]) dX15_doNamesFit_46 rfl (by decide) rfl ?_
        refine e_iload_n 48 dX15_doNamesFit_47 rfl rfl ?_
        refine e_if_eq 61 51 dX15_doNamesFit_48 rfl rfl (fun c48 => ?_) (fun c48 => absurd c48 (by decide))
        refine e_iinc 64 (v := (nI (j + 1))) (ls' := [some (.ref a), some (.int (nI ar.length)), some (.int (nI k)), some (.int (nI 0)), some (.int (nI (j + 1)))]) dX15_doNamesFit_61 rfl rfl (nI_add j 1) (by decide) rfl ?_
        refine e_goto 8 dX15_doNamesFit_64 rfl ?_
        refine e_iload 10 dX15_doNamesFit_8 rfl rfl ?_
        refine e_aload_n 11 dX15_doNamesFit_10 rfl rfl ?_
        refine e_bipush 13 (v := (nI 6)) dX15_doNamesFit_11 rfl (by decide) ?_
        have b13 := gd_lt (i := 6) ha (by decide)
        refine v_iald 14 hA (k := 6) (x := (ar.getD 6 0)) dX15_doNamesFit_13 rfl (by omega) (by omega) rfl ?_
        refine e_icmp_ge 67 17 dX15_doNamesFit_14 rfl rfl (fun c14 => ?_) (fun c14 => ?_)
        · have k14 := j_ge_t (a := (j + 1)) (b := (ar.getD 6 0)) (by omega) (by omega) c14
          refine e_iload_n 68 dX15_doNamesFit_67 rfl rfl ?_
          refine e_if_eq 80 71 dX15_doNamesFit_68 rfl rfl (fun c68 => ?_) (fun c68 => absurd c68 (by decide))
          refine e_iconst 81 (v := (nI 0)) dX15_doNamesFit_80 rfl (by decide) ?_
          exact e_zret dX15_doNamesFit_81 rfl (Or.inl (by decide)) (by omega) (by omega) (⟨by rw [← he, show t = t - 1 + 1 by omega, teF, if_neg (by omega)]; rfl, rfl⟩)
        · have k14 := j_ge_f (a := (j + 1)) (b := (ar.getD 6 0)) (by omega) (by omega) c14
          refine e_iload_n 18 dX15_doNamesFit_17 rfl rfl ?_
          refine e_if_eq 67 21 dX15_doNamesFit_18 rfl rfl (fun c18 => ?_) (fun c18 => absurd c18 (by decide))
          refine e_iload_n 68 dX15_doNamesFit_67 rfl rfl ?_
          refine e_if_eq 80 71 dX15_doNamesFit_68 rfl rfl (fun c68 => ?_) (fun c68 => absurd c68 (by decide))
          refine e_iconst 81 (v := (nI 0)) dX15_doNamesFit_80 rfl (by decide) ?_
          exact e_zret dX15_doNamesFit_81 rfl (Or.inl (by decide)) (by omega) (by omega) (⟨by rw [← he, show t = t - 1 + 1 by omega, teF, if_neg (by omega)]; rfl, rfl⟩)
      · have k25 := j_gt_f (a := (k + 2)) (b := ar.length) (by omega) (by omega) c25
        refine e_iload_n 29 dX15_doNamesFit_28 rfl rfl ?_
        refine e_iconst 30 (v := (nI 2)) dX15_doNamesFit_29 rfl (by decide) ?_
        refine e_iadd 31 (v := (nI (k + 2))) dX15_doNamesFit_30 rfl (nI_add k 2) ?_
        refine e_aload_n 32 dX15_doNamesFit_31 rfl rfl ?_
        refine e_iload_n 33 dX15_doNamesFit_32 rfl rfl ?_
        refine e_iconst 34 (v := (nI 1)) dX15_doNamesFit_33 rfl (by decide) ?_
        refine e_iadd 35 (v := (nI (k + 1))) dX15_doNamesFit_34 rfl (nI_add k 1) ?_
        have b35 := gd_lt (i := (k + 1)) ha (by decide)
        refine v_iald 36 hA (k := (k + 1)) (x := (ar.getD (k + 1) 0)) dX15_doNamesFit_35 rfl (by omega) (by omega) rfl ?_
        refine e_iadd 37 (v := (nI ((k + 2) + (ar.getD (k + 1) 0)))) dX15_doNamesFit_36 rfl (nI_add (k + 2) (ar.getD (k + 1) 0)) ?_
        refine e_iload_n 38 dX15_doNamesFit_37 rfl rfl ?_
        refine e_icmp_gt 45 41 dX15_doNamesFit_38 rfl rfl (fun c38 => ?_) (fun c38 => ?_)
        · have k38 := j_gt_t (a := ((k + 2) + (ar.getD (k + 1) 0))) (b := ar.length) (by omega) (by omega) c38
          refine e_iconst 46 (v := (nI 0)) dX15_doNamesFit_45 rfl (by decide) ?_
          refine e_istore_n 47 (ls' := [some (.ref a), some (.int (nI ar.length)), some (.int (nI k)), some (.int (nI 0)), some (.int (nI j))]) dX15_doNamesFit_46 rfl (by decide) rfl ?_
          refine e_iload_n 48 dX15_doNamesFit_47 rfl rfl ?_
          refine e_if_eq 61 51 dX15_doNamesFit_48 rfl rfl (fun c48 => ?_) (fun c48 => absurd c48 (by decide))
          refine e_iinc 64 (v := (nI (j + 1))) (ls' := [some (.ref a), some (.int (nI ar.length)), some (.int (nI k)), some (.int (nI 0)), some (.int (nI (j + 1)))]) dX15_doNamesFit_61 rfl rfl (nI_add j 1) (by decide) rfl ?_
          refine e_goto 8 dX15_doNamesFit_64 rfl ?_
          refine e_iload 10 dX15_doNamesFit_8 rfl rfl ?_
          refine e_aload_n 11 dX15_doNamesFit_10 rfl rfl ?_
          refine e_bipush 13 (v := (nI 6)) dX15_doNamesFit_11 rfl (by decide) ?_
          have b13 := gd_lt (i := 6) ha (by decide)
          refine v_iald 14 hA (k := 6) (x := (ar.getD 6 0)) dX15_doNamesFit_13 rfl (by omega) (by omega) rfl ?_
          refine e_icmp_ge 67 17 dX15_doNamesFit_14 rfl rfl (fun c14 => ?_) (fun c14 => ?_)
          · have k14 := j_ge_t (a := (j + 1)) (b := (ar.getD 6 0)) (by omega) (by omega) c14
            refine e_iload_n 68 dX15_doNamesFit_67 rfl rfl ?_
            refine e_if_eq 80 71 dX15_doNamesFit_68 rfl rfl (fun c68 => ?_) (fun c68 => absurd c68 (by decide))
            refine e_iconst 81 (v := (nI 0)) dX15_doNamesFit_80 rfl (by decide) ?_
            exact e_zret dX15_doNamesFit_81 rfl (Or.inl (by decide)) (by omega) (by omega) (⟨by rw [← he, show t = t - 1 + 1 by omega, teF, if_pos (by omega), decide_eq_false (teF_big (by omega) _)]; rfl, rfl⟩)
          · have k14 := j_ge_f (a := (j + 1)) (b := (ar.getD 6 0)) (by omega) (by omega) c14
            refine e_iload_n 18 dX15_doNamesFit_17 rfl rfl ?_
            refine e_if_eq 67 21 dX15_doNamesFit_18 rfl rfl (fun c18 => ?_) (fun c18 => absurd c18 (by decide))
            refine e_iload_n 68 dX15_doNamesFit_67 rfl rfl ?_
            refine e_if_eq 80 71 dX15_doNamesFit_68 rfl rfl (fun c68 => ?_) (fun c68 => absurd c68 (by decide))
            refine e_iconst 81 (v := (nI 0)) dX15_doNamesFit_80 rfl (by decide) ?_
            exact e_zret dX15_doNamesFit_81 rfl (Or.inl (by decide)) (by omega) (by omega) (⟨by rw [← he, show t = t - 1 + 1 by omega, teF, if_pos (by omega), decide_eq_false (teF_big (by omega) _)]; rfl, rfl⟩)
        · have k38 := j_gt_f (a := ((k + 2) + (ar.getD (k + 1) 0))) (b := ar.length) (by omega) (by omega) c38
          refine e_iconst 42 (v := (nI 1)) dX15_doNamesFit_41 rfl (by decide) ?_
          refine e_goto 46 dX15_doNamesFit_42 rfl ?_
          refine e_istore_n 47 (ls' := [some (.ref a), some (.int (nI ar.length)), some (.int (nI k)), some (.int (nI 1)), some (.int (nI j))]) dX15_doNamesFit_46 rfl (by decide) rfl ?_
          refine e_iload_n 48 dX15_doNamesFit_47 rfl rfl ?_
          refine e_if_eq 61 51 dX15_doNamesFit_48 rfl rfl (fun c48 => absurd c48 (by decide)) (fun c48 => ?_)
          refine e_iload_n 52 dX15_doNamesFit_51 rfl rfl ?_
          refine e_iconst 53 (v := (nI 2)) dX15_doNamesFit_52 rfl (by decide) ?_
          refine e_aload_n 54 dX15_doNamesFit_53 rfl rfl ?_
          refine e_iload_n 55 dX15_doNamesFit_54 rfl rfl ?_
          refine e_iconst 56 (v := (nI 1)) dX15_doNamesFit_55 rfl (by decide) ?_
          refine e_iadd 57 (v := (nI (k + 1))) dX15_doNamesFit_56 rfl (nI_add k 1) ?_
          have b57 := gd_lt (i := (k + 1)) ha (by decide)
          refine v_iald 58 hA (k := (k + 1)) (x := (ar.getD (k + 1) 0)) dX15_doNamesFit_57 rfl (by omega) (by omega) rfl ?_
          refine e_iadd 59 (v := (nI (2 + (ar.getD (k + 1) 0)))) dX15_doNamesFit_58 rfl (nI_add 2 (ar.getD (k + 1) 0)) ?_
          refine e_iadd 60 (v := (nI (k + (2 + (ar.getD (k + 1) 0))))) dX15_doNamesFit_59 rfl (nI_add k (2 + (ar.getD (k + 1) 0))) ?_
          refine e_istore_n 61 (ls' := [some (.ref a), some (.int (nI ar.length)), some (.int (nI (k + (2 + (ar.getD (k + 1) 0))))), some (.int (nI 1)), some (.int (nI j))]) dX15_doNamesFit_60 rfl (by decide) rfl ?_
          refine e_iinc 64 (v := (nI (j + 1))) (ls' := [some (.ref a), some (.int (nI ar.length)), some (.int (nI (k + (2 + (ar.getD (k + 1) 0))))), some (.int (nI 1)), some (.int (nI (j + 1)))]) dX15_doNamesFit_61 rfl rfl (nI_add j 1) (by decide) rfl ?_
          refine e_goto 8 dX15_doNamesFit_64 rfl ?_
          obtain ⟨t, rfl⟩ : ∃ t1, t = t1 + 1 := ⟨t - 1, by omega⟩
          refine e_wk [some (.ref a), some (.int (nI ar.length)), some (.int (nI (k + (2 + ar.getD (k + 1) 0)))), some (.int (nI 1)), some (.int (nI (j + 1)))] ⟨rfl, rfl, rfl, rfl, rfl, trivial⟩ ?_
          exact ih t (j + 1) (k + (2 + ar.getD (k + 1) 0)) (by omega) (by omega) (by omega) (by rw [← he, teF, if_pos (by omega)])
set_option maxRecDepth 20000 in
set_option maxHeartbeats 2000000 in
theorem u_X15_doNamesFit {a an : Nat} {ar : List Nat} {h : eH} (hA : iaR a an ar h) (han : an < 100000) (ha : ∀ x ∈ ar, x < 256) (h7 : 7 ≤ ar.length) : PC mX15_doNamesFit [.ref a, .int (nI ar.length)] h (some (.int (bI (decide (teF ar (ar.getD 6 0) 7 = some ar.length))))) 0 0 := by
  refine PC.mk 3 (ls := [some (.ref a), some (.int (nI ar.length)), none, none, none]) rfl rfl (Nat.le_of_ble_eq_true rfl) rfl ?_
  refine e_bipush 2 (v := (nI 7)) dX15_doNamesFit_0 rfl (by decide) ?_
  refine e_istore_n 3 (ls' := [some (.ref a), some (.int (nI ar.length)), some (.int (nI 7)), none, none]) dX15_doNamesFit_2 rfl (by decide) rfl ?_
  refine e_iconst 4 (v := (nI 1)) dX15_doNamesFit_3 rfl (by decide) ?_
  refine e_istore_n 5 (ls' := [some (.ref a), some (.int (nI ar.length)), some (.int (nI 7)), some (.int (nI 1)), none]) dX15_doNamesFit_4 rfl (by decide) rfl ?_
  refine e_iconst 6 (v := (nI 0)) dX15_doNamesFit_5 rfl (by decide) ?_
  refine e_istore 8 (ls' := [some (.ref a), some (.int (nI ar.length)), some (.int (nI 7)), some (.int (nI 1)), some (.int (nI 0))]) dX15_doNamesFit_6 rfl (by decide) rfl ?_
  exact ul_doNamesFit hA han ha h7 _ (ar.getD 6 0) 0 7 (Nat.lt_succ_self _) (by omega) h7 rfl
