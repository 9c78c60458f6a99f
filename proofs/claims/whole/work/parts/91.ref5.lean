/-! the reference: what a request asks in vain -/
theorem okD_8 {s : DS} (h : okD s) : s.1 8 ≤ 8 := h.1
theorem okD_L {s : DS} (h : okD s) (k : Nat) : ∀ x ∈ dL s k, x < 65536 := h.2.2.2.1 k
theorem ixM_sort {M : List (Nat × List Nat)} {x : Int32} : ixM (sortT M) x = none ↔ ixM M x = none := by
  rw [ixM, ixM, List.findIdx?_eq_none_iff, List.findIdx?_eq_none_iff]
  exact ⟨fun h e he => h e ((sortT_perm M).mem_iff.mpr he), fun h e he => h e ((sortT_perm M).mem_iff.mp he)⟩
theorem ffF_out {M : List (Nat × List Nat)} {q : List Nat} {vb i : Nat} (h : ¬ i < q.length) : ∀ t, ffF M q vb t i = 0
  | 0 => rfl
  | t + 1 => by rw [ffF, if_neg h]
set_option maxRecDepth 20000 in
set_option maxHeartbeats 2000000 in
theorem u_X15_masked {d a qn : Nat} {q : List Nat} {s : DS} {h : eH} (hv : rdV d s h) (he : okE s) (hok : okD s) (hR : iaR a qn q h) (hqn : qn < 100000) (hq : ∀ x ∈ q, x < 256) (h1 : 1 ≤ q.length) (hl9 : q.length ≤ 253) (h7 : q.length = 7) (hr : dF s 2 ≤ wd q 1 ∧ wd q 1 < dF s 2 + (dL s 2).length) : PC mX15_masked [.ref d, .ref a] h (some (.int (nI (mkN ((dL s 2).getD (wd q 1 - dF s 2) 0) (wd q 3) (wd q 5))))) 2 44 := by
  have hv9 := hv
  obtain ⟨A, v0, v1, v2, v3, v4, v5, v6, v7, v8, v9, v10, v11, v12, v13, v14, v15, v16, v17, v18, v19, v20, v21⟩ := hv9
  have hle := hR.le
  have h8 := okD_8 hok
  refine PC.mk 2 (ls := [some (.ref d), some (.ref a), none, none]) rfl rfl (Nat.le_of_ble_eq_true rfl) rfl ?_
  refine e_aload_n 1 dX15_masked_0 rfl rfl ?_
  refine e_iconst 2 (v := (nI 3)) dX15_masked_1 rfl (by decide) ?_
  refine u_callS 5 dX15_masked_2 rfl cs_X15_85 (u_X15_two hR (k := 3) (by omega) (by omega)) rfl rfl (Nat.le_of_ble_eq_true rfl) (by decide) ⟨by omega, by omega⟩ ?_
  have w2 := wd_lt (k := 3) hq
  refine e_istore_n 6 (ls' := [some (.ref d), some (.ref a), some (.int (nI (wd q 3))), none]) dX15_masked_5 rfl (by decide) rfl ?_
  refine e_aload_n 7 dX15_masked_6 rfl rfl ?_
  refine e_iconst 8 (v := (nI 5)) dX15_masked_7 rfl (by decide) ?_
  refine u_callS 11 dX15_masked_8 rfl cs_X15_85 (u_X15_two hR (k := 5) (by omega) (by omega)) rfl rfl (Nat.le_of_ble_eq_true rfl) (by decide) ⟨by omega, by omega⟩ ?_
  have w8 := wd_lt (k := 5) hq
  refine e_istore_n 12 (ls' := [some (.ref d), some (.ref a), some (.int (nI (wd q 3))), some (.int (nI (wd q 5)))]) dX15_masked_11 rfl (by decide) rfl ?_
  refine e_aload_n 13 dX15_masked_12 rfl rfl ?_
  refine e_iconst 14 (v := (nI 2)) dX15_masked_13 rfl (by decide) ?_
  refine e_aload_n 15 dX15_masked_14 rfl rfl ?_
  refine e_iconst 16 (v := (nI 1)) dX15_masked_15 rfl (by decide) ?_
  refine u_callS 19 dX15_masked_16 rfl cs_X15_85 (u_X15_two hR (k := 1) (by omega) (by omega)) rfl rfl (Nat.le_of_ble_eq_true rfl) (by decide) ⟨by omega, by omega⟩ ?_
  have w16 := wd_lt (k := 1) hq
  refine u_callV 22 dX15_masked_19 rfl cv_X15_137 v0 (u_X12_get hv he (by decide) hr) rfl rfl (Nat.le_of_ble_eq_true rfl) (by decide) ⟨by omega, by omega⟩ ?_
  refine e_iload_n 23 dX15_masked_22 rfl rfl ?_
  refine e_iand 24 (v := (nI ((dL s 2).getD (wd q 1 - dF s 2) 0 &&& wd q 3))) dX15_masked_23 rfl (nx_and _ _) ?_
  refine e_iload_n 25 dX15_masked_24 rfl rfl ?_
  refine e_ldc 27 (v := (nI 65535)) dX15_masked_25 rfl cn_X15_76 ?_
  refine e_iload_n 28 dX15_masked_27 rfl rfl ?_
  refine e_isub 29 (v := (nI (65535 - wd q 3))) dX15_masked_28 rfl (pk_sub (by omega)) ?_
  refine e_iand 30 (v := (nI (wd q 5 &&& (65535 - wd q 3)))) dX15_masked_29 rfl (nx_and _ _) ?_
  refine e_ior 31 (v := (nI (mkN ((dL s 2).getD (wd q 1 - dF s 2) 0) (wd q 3) (wd q 5)))) dX15_masked_30 rfl (nx_or _ _) ?_
  exact e_iret dX15_masked_31 rfl (by omega) (by omega) (⟨rfl, rfl⟩)
set_option maxRecDepth 20000 in
set_option maxHeartbeats 2000000 in
theorem ul_mays {d a qn : Nat} {q : List Nat} {s : DS} {h : eH} (hv : rdV d s h) (he : okE s) (hok : okD s) (hR : iaR a qn q h) (hqn : qn < 100000) (hq : ∀ x ∈ q, x < 256) (h1 : 1 ≤ q.length) (hl9 : q.length ≤ 253) {t m fb : Nat} (ht : t < 65536) (hm : m < 3000) (hfb : fb + 2 * m ≤ q.length) : ∀ (n : Nat) (i : Nat), m - i < n → i ≤ m → EE mX15_mays 1 24 0 0 (fun x9 h9 => x9 = some (.int (bI ((List.range m).all (fun i => mbg (dM s) (s.1 8) (t + i) (wd q (fb + 2 * i)))))) ∧ h9 = h) 6 [some (.ref d), some (.ref a), some (.int (nI t)), some (.int (nI m)), some (.int (nI fb)), some (.int (bI ((List.range i).all (fun i => mbg (dM s) (s.1 8) (t + i) (wd q (fb + 2 * i)))))), some (.int (nI i))] [] h 0 0 := by
  intro n
  induction n with
  | zero => intro i hlt hle2; exact absurd hlt (by omega)
  | succ n ih =>
    intro i hlt hle2
    have hv9 := hv
    obtain ⟨A, v0, v1, v2, v3, v4, v5, v6, v7, v8, v9, v10, v11, v12, v13, v14, v15, v16, v17, v18, v19, v20, v21⟩ := hv9
    have hle := hR.le
    have h8 := okD_8 hok
    refine e_iload 8 dX15_mays_6 rfl rfl ?_
    refine e_iload_n 9 dX15_mays_8 rfl rfl ?_
    refine e_icmp_ge 52 12 dX15_mays_9 rfl rfl (fun c9 => ?_) (fun c9 => ?_)
    · have k9 := j_ge_t (a := i) (b := m) (by omega) (by omega) c9
      refine e_iload 54 dX15_mays_52 rfl rfl ?_
      exact e_zret dX15_mays_54 rfl (bI_01 _) (by omega) (by omega) (⟨by rw [show i = m by omega], rfl⟩)
    · have k9 := j_ge_f (a := i) (b := m) (by omega) (by omega) c9
      refine e_iload 14 dX15_mays_12 rfl rfl ?_
      refine e_if_eq 43 17 dX15_mays_14 rfl rfl (fun c14 => ?_) (fun c14 => ?_)
      · have k14 := jb_eq_t c14
        refine e_iconst 44 (v := (nI 0)) dX15_mays_43 rfl (by decide) ?_
        refine e_top (v' := (bI ((List.range (i + 1)).all (fun i => mbg (dM s) (s.1 8) (t + i) (wd q (fb + 2 * i)))))) (by rw [List.range_succ, List.all_append, k14]; rfl) ?_
        refine e_istore 46 (ls' := [some (.ref d), some (.ref a), some (.int (nI t)), some (.int (nI m)), some (.int (nI fb)), some (.int (bI ((List.range (i + 1)).all (fun i => mbg (dM s) (s.1 8) (t + i) (wd q (fb + 2 * i)))))), some (.int (nI i))]) dX15_mays_44 rfl (by decide) rfl ?_
        refine e_iinc 49 (v := (nI (i + 1))) (ls' := [some (.ref d), some (.ref a), some (.int (nI t)), some (.int (nI m)), some (.int (nI fb)), some (.int (bI ((List.range (i + 1)).all (fun i => mbg (dM s) (s.1 8) (t + i) (wd q (fb + 2 * i)))))), some (.int (nI (i + 1)))]) dX15_mays_46 rfl rfl (nI_add i 1) (by decide) rfl ?_
        refine e_goto 6 dX15_mays_49 rfl ?_
        refine e_wk [some (.ref d), some (.ref a), some (.int (nI t)), some (.int (nI m)), some (.int (nI fb)), some (.int (bI ((List.range (i + 1)).all (fun i => mbg (dM s) (s.1 8) (t + i) (wd q (fb + 2 * i)))))), some (.int (nI (i + 1)))] ⟨rfl, rfl, rfl, rfl, rfl, rfl, rfl, trivial⟩ ?_
        exact ih (i + 1) (by omega) (by omega)
      · have k14 := jb_eq_f c14
        refine e_aload_n 18 dX15_mays_17 rfl rfl ?_
        refine e_iload_n 19 dX15_mays_18 rfl rfl ?_
        refine e_iload 21 dX15_mays_19 rfl rfl ?_
        refine e_iadd 22 (v := (nI (t + i))) dX15_mays_21 rfl (nI_add t i) ?_
        refine e_aload_n 23 dX15_mays_22 rfl rfl ?_
        refine e_iload 25 dX15_mays_23 rfl rfl ?_
        refine e_iconst 26 (v := (nI 2)) dX15_mays_25 rfl (by decide) ?_
        refine e_iload 28 dX15_mays_26 rfl rfl ?_
        refine e_imul 29 (v := (nI (2 * i))) dX15_mays_28 rfl (pk_mul 2 i) ?_
        refine e_iadd 30 (v := (nI (fb + (2 * i)))) dX15_mays_29 rfl (nI_add fb (2 * i)) ?_
        refine u_callS 33 dX15_mays_30 rfl cs_X15_85 (u_X15_two hR (k := (fb + (2 * i))) (by omega) (by omega)) rfl rfl (Nat.le_of_ble_eq_true rfl) (by decide) ⟨by omega, by omega⟩ ?_
        have w30 := wd_lt (k := (fb + (2 * i))) hq
        refine u_callV 36 dX15_mays_33 rfl cv_X15_111 v0 (u_X12_may hv he h8 (by omega) (by omega)) rfl rfl (Nat.le_of_ble_eq_true rfl) (by decide) ⟨by omega, by omega⟩ ?_
        refine e_if_eq 43 39 dX15_mays_36 rfl rfl (fun c36 => ?_) (fun c36 => ?_)
        · have k36 := jb_eq_t c36
          refine e_iconst 44 (v := (nI 0)) dX15_mays_43 rfl (by decide) ?_
          refine e_top (v' := (bI ((List.range (i + 1)).all (fun i => mbg (dM s) (s.1 8) (t + i) (wd q (fb + 2 * i)))))) (by rw [List.range_succ, List.all_append, k14, List.all_cons, k36]; rfl) ?_
          refine e_istore 46 (ls' := [some (.ref d), some (.ref a), some (.int (nI t)), some (.int (nI m)), some (.int (nI fb)), some (.int (bI ((List.range (i + 1)).all (fun i => mbg (dM s) (s.1 8) (t + i) (wd q (fb + 2 * i)))))), some (.int (nI i))]) dX15_mays_44 rfl (by decide) rfl ?_
          refine e_iinc 49 (v := (nI (i + 1))) (ls' := [some (.ref d), some (.ref a), some (.int (nI t)), some (.int (nI m)), some (.int (nI fb)), some (.int (bI ((List.range (i + 1)).all (fun i => mbg (dM s) (s.1 8) (t + i) (wd q (fb + 2 * i)))))), some (.int (nI (i + 1)))]) dX15_mays_46 rfl rfl (nI_add i 1) (by decide) rfl ?_
          refine e_goto 6 dX15_mays_49 rfl ?_
          refine e_wk [some (.ref d), some (.ref a), some (.int (nI t)), some (.int (nI m)), some (.int (nI fb)), some (.int (bI ((List.range (i + 1)).all (fun i => mbg (dM s) (s.1 8) (t + i) (wd q (fb + 2 * i)))))), some (.int (nI (i + 1)))] ⟨rfl, rfl, rfl, rfl, rfl, rfl, rfl, trivial⟩ ?_
          exact ih (i + 1) (by omega) (by omega)
        · have k36 := jb_eq_f c36
          refine e_iconst 40 (v := (nI 1)) dX15_mays_39 rfl (by decide) ?_
          refine e_goto 44 dX15_mays_40 rfl ?_
          refine e_top (v' := (bI ((List.range (i + 1)).all (fun i => mbg (dM s) (s.1 8) (t + i) (wd q (fb + 2 * i)))))) (by rw [List.range_succ, List.all_append, k14, List.all_cons, k36]; rfl) ?_
          refine e_istore 46 (ls' := [some (.ref d), some (.ref a), some (.int (nI t)), some (.int (nI m)), some (.int (nI fb)), some (.int (bI ((List.range (i + 1)).all (fun i => mbg (dM s) (s.1 8) (t + i) (wd q (fb + 2 * i)))))), some (.int (nI i))]) dX15_mays_44 rfl (by decide) rfl ?_
          refine e_iinc 49 (v := (nI (i + 1))) (ls' := [some (.ref d), some (.ref a), some (.int (nI t)), some (.int (nI m)), some (.int (nI fb)), some (.int (bI ((List.range (i + 1)).all (fun i => mbg (dM s) (s.1 8) (t + i) (wd q (fb + 2 * i)))))), some (.int (nI (i + 1)))]) dX15_mays_46 rfl rfl (nI_add i 1) (by decide) rfl ?_
          refine e_goto 6 dX15_mays_49 rfl ?_
          refine e_wk [some (.ref d), some (.ref a), some (.int (nI t)), some (.int (nI m)), some (.int (nI fb)), some (.int (bI ((List.range (i + 1)).all (fun i => mbg (dM s) (s.1 8) (t + i) (wd q (fb + 2 * i)))))), some (.int (nI (i + 1)))] ⟨rfl, rfl, rfl, rfl, rfl, rfl, rfl, trivial⟩ ?_
          exact ih (i + 1) (by omega) (by omega)
set_option maxRecDepth 20000 in
set_option maxHeartbeats 2000000 in
theorem u_X15_mays {d a qn : Nat} {q : List Nat} {s : DS} {h : eH} (hv : rdV d s h) (he : okE s) (hok : okD s) (hR : iaR a qn q h) (hqn : qn < 100000) (hq : ∀ x ∈ q, x < 256) (h1 : 1 ≤ q.length) (hl9 : q.length ≤ 253) {t m fb : Nat} (ht : t < 65536) (hm : m < 3000) (hfb : fb + 2 * m ≤ q.length) : PC mX15_mays [.ref d, .ref a, .int (nI t), .int (nI m), .int (nI fb)] h (some (.int (bI ((List.range m).all (fun i => mbg (dM s) (s.1 8) (t + i) (wd q (fb + 2 * i))))))) 1 24 := by
  refine PC.mk 2 (ls := [some (.ref d), some (.ref a), some (.int (nI t)), some (.int (nI m)), some (.int (nI fb)), none, none]) rfl rfl (Nat.le_of_ble_eq_true rfl) rfl ?_
  refine e_iconst 1 (v := (nI 1)) dX15_mays_0 rfl (by decide) ?_
  refine e_istore 3 (ls' := [some (.ref d), some (.ref a), some (.int (nI t)), some (.int (nI m)), some (.int (nI fb)), some (.int (nI 1)), none]) dX15_mays_1 rfl (by decide) rfl ?_
  refine e_iconst 4 (v := (nI 0)) dX15_mays_3 rfl (by decide) ?_
  refine e_istore 6 (ls' := [some (.ref d), some (.ref a), some (.int (nI t)), some (.int (nI m)), some (.int (nI fb)), some (.int (nI 1)), some (.int (nI 0))]) dX15_mays_4 rfl (by decide) rfl ?_
  refine e_lc (ls' := [some (.ref d), some (.ref a), some (.int (nI t)), some (.int (nI m)), some (.int (nI fb)), some (.int (bI ((List.range 0).all (fun i => mbg (dM s) (s.1 8) (t + i) (wd q (fb + 2 * i)))))), some (.int (nI 0))]) rfl ?_
  exact ul_mays hv he hok hR hqn hq h1 hl9 ht hm hfb _ 0 (Nat.lt_succ_self _) (Nat.zero_le _)
set_option maxRecDepth 20000 in
set_option maxHeartbeats 2000000 in
theorem ul_parts {d a qn : Nat} {q : List Nat} {s : DS} {h : eH} (hv : rdV d s h) (he : okE s) (hok : okD s) (hR : iaR a qn q h) (hqn : qn < 100000) (hq : ∀ x ∈ q, x < 256) (h1 : 1 ≤ q.length) (hl9 : q.length ≤ 253) {vb : Nat} (hvb : (q.getD 0 0 = 21 → vb = 2) ∧ (q.getD 0 0 ≠ 21 → vb = 0)) : ∀ (n : Nat) (p t i : Nat), 37 - p < n → p + t = 36 → 2 + 7 * p ≤ i → i ≤ 2 + p * 200000 → ((q.getD 0 0 = 20 ∧ (q.length - i) % 7 = 0 ∧ i ≤ q.length) ∨ (q.getD 0 0 = 21 ∧ wpE q t i = q.length)) → ffF (dS s 0) q vb t i = ffF (dS s 0) q vb 36 2 → EE mX15_parts 1 22 0 0 (fun x9 h9 => x9 = some (.int (nI (ffF (dS s 0) q vb 36 2))) ∧ h9 = h) 2 [some (.ref d), some (.ref a), some (.int (nI q.length)), some (.int (nI i)), none] [] h 0 0 := by
  intro n
  induction n with
  | zero => intro p t i hlt hpt hi0 hi hi9 hff; exact absurd hlt (by omega)
  | succ n ih =>
    intro p t i hlt hpt hi0 hi hi9 hff
    have hv9 := hv
    obtain ⟨A, v0, v1, v2, v3, v4, v5, v6, v7, v8, v9, v10, v11, v12, v13, v14, v15, v16, v17, v18, v19, v20, v21⟩ := hv9
    have hle := hR.le
    have h8 := okD_8 hok
    have hsh := okE_sh he
    have hwj := wd_lt (k := i + 5) hq
    have hsl := shO_le hsh.1
    refine e_iload_n 3 dX15_parts_2 rfl rfl ?_
    refine e_iload_n 4 dX15_parts_3 rfl rfl ?_
    refine e_icmp_ge 91 7 dX15_parts_4 rfl rfl (fun c4 => ?_) (fun c4 => ?_)
    · have k4 := j_ge_t (a := i) (b := q.length) (by omega) (by omega) c4
      refine e_iconst 92 (v := (nI 0)) dX15_parts_91 rfl (by decide) ?_
      exact e_iret dX15_parts_92 rfl (by omega) (by omega) (⟨by rw [← hff, ffF_out (by omega)], rfl⟩)
    · have k4 := j_ge_f (a := i) (b := q.length) (by omega) (by omega) c4
      have hs : i + 7 ≤ q.length := by (rcases hi9 with z | z; omega; exact Decidable.byContradiction fun y => by have z2 := z.2; rw [wpE_out y] at z2; omega)
      refine e_aload_n 8 dX15_parts_7 rfl rfl ?_
      refine e_aload_n 9 dX15_parts_8 rfl rfl ?_
      refine e_iload_n 10 dX15_parts_9 rfl rfl ?_
      refine e_iconst 11 (v := (nI 1)) dX15_parts_10 rfl (by decide) ?_
      refine e_iadd 12 (v := (nI (i + 1))) dX15_parts_11 rfl (nI_add i 1) ?_
      refine u_callS 15 dX15_parts_12 rfl cs_X15_85 (u_X15_two hR (k := (i + 1)) (by omega) (by omega)) rfl rfl (Nat.le_of_ble_eq_true rfl) (by decide) ⟨by omega, by omega⟩ ?_
      have w12 := wd_lt (k := (i + 1)) hq
      refine u_callV 18 dX15_parts_15 rfl cv_X15_141 v0 (u_X12_fileOf hv he) rfl rfl (Nat.le_of_ble_eq_true rfl) (by decide) ⟨by omega, by omega⟩ ?_
      rcases hx15 : ixM (dS s 0) (nI (wd q (i + 1))) with _ | i15
      · have n15 := hx15
        refine e_istore 20 (ls' := [some (.ref d), some (.ref a), some (.int (nI q.length)), some (.int (nI i)), some (.int (-1))]) dX15_parts_18 rfl (by decide) rfl ?_
        refine e_aload_n 21 dX15_parts_20 rfl rfl ?_
        refine e_iload_n 22 dX15_parts_21 rfl rfl ?_
        have b22 := gd_lt (i := i) hq (by decide)
        refine v_iald 23 hR (k := i) (x := (q.getD i 0)) dX15_parts_22 rfl (by omega) (by omega) rfl ?_
        refine e_bipush 25 (v := (nI 6)) dX15_parts_23 rfl (by decide) ?_
        refine e_icmp_ne 59 28 dX15_parts_25 rfl rfl (fun c25 => ?_) (fun c25 => ?_)
        · have k25 := j_ne_t (a := (q.getD i 0)) (b := 6) (by omega) (by omega) c25
          refine e_iconst 60 (v := (nI 2)) dX15_parts_59 rfl (by decide) ?_
          exact e_iret dX15_parts_60 rfl (by omega) (by omega) (⟨by rw [← hff, show t = t - 1 + 1 by omega, ffF, if_pos (by omega), if_neg (by rw [show fpF (dS s 0) q i = false by (rw [fpF_n n15])]; decide)], rfl⟩)
        · have k25 := j_ne_f (a := (q.getD i 0)) (b := 6) (by omega) (by omega) c25
          refine e_iload 30 dX15_parts_28 rfl rfl ?_
          refine e_iconst 31 (v := (-1)) dX15_parts_30 rfl (by decide) ?_
          refine e_icmp_eq 59 34 dX15_parts_31 rfl rfl (fun c31 => ?_) (fun c31 => absurd c31 (fun z => z rfl))
          refine e_iconst 60 (v := (nI 2)) dX15_parts_59 rfl (by decide) ?_
          exact e_iret dX15_parts_60 rfl (by omega) (by omega) (⟨by rw [← hff, show t = t - 1 + 1 by omega, ffF, if_pos (by omega), if_neg (by rw [show fpF (dS s 0) q i = false by (rw [fpF_n n15])]; decide)], rfl⟩)
      · have l15 := ixM_lt hx15
        have hrl := shO_at hsh.1 (by decide) i15
        refine e_istore 20 (ls' := [some (.ref d), some (.ref a), some (.int (nI q.length)), some (.int (nI i)), some (.int (nI i15))]) dX15_parts_18 rfl (by decide) rfl ?_
        refine e_aload_n 21 dX15_parts_20 rfl rfl ?_
        refine e_iload_n 22 dX15_parts_21 rfl rfl ?_
        have b22 := gd_lt (i := i) hq (by decide)
        refine v_iald 23 hR (k := i) (x := (q.getD i 0)) dX15_parts_22 rfl (by omega) (by omega) rfl ?_
        refine e_bipush 25 (v := (nI 6)) dX15_parts_23 rfl (by decide) ?_
        refine e_icmp_ne 59 28 dX15_parts_25 rfl rfl (fun c25 => ?_) (fun c25 => ?_)
        · have k25 := j_ne_t (a := (q.getD i 0)) (b := 6) (by omega) (by omega) c25
          refine e_iconst 60 (v := (nI 2)) dX15_parts_59 rfl (by decide) ?_
          exact e_iret dX15_parts_60 rfl (by omega) (by omega) (⟨by rw [← hff, show t = t - 1 + 1 by omega, ffF, if_pos (by omega), if_neg (by rw [show fpF (dS s 0) q i = false by (rw [fpF_s hx15]; exact decide_eq_false (by omega))]; decide)], rfl⟩)
        · have k25 := j_ne_f (a := (q.getD i 0)) (b := 6) (by omega) (by omega) c25
          refine e_iload 30 dX15_parts_28 rfl rfl ?_
          refine e_iconst 31 (v := (-1)) dX15_parts_30 rfl (by decide) ?_
          refine e_icmp_eq 59 34 dX15_parts_31 rfl rfl (fun c31 => absurd c31 (nI_ne_m1 (by omega))) (fun c31 => ?_)
          refine e_aload_n 35 dX15_parts_34 rfl rfl ?_
          refine e_iload_n 36 dX15_parts_35 rfl rfl ?_
          refine e_iconst 37 (v := (nI 3)) dX15_parts_36 rfl (by decide) ?_
          refine e_iadd 38 (v := (nI (i + 3))) dX15_parts_37 rfl (nI_add i 3) ?_
          refine u_callS 41 dX15_parts_38 rfl cs_X15_85 (u_X15_two hR (k := (i + 3)) (by omega) (by omega)) rfl rfl (Nat.le_of_ble_eq_true rfl) (by decide) ⟨by omega, by omega⟩ ?_
          have w38 := wd_lt (k := (i + 3)) hq
          refine e_aload_n 42 dX15_parts_41 rfl rfl ?_
          refine e_iload_n 43 dX15_parts_42 rfl rfl ?_
          refine e_iconst 44 (v := (nI 5)) dX15_parts_43 rfl (by decide) ?_
          refine e_iadd 45 (v := (nI (i + 5))) dX15_parts_44 rfl (nI_add i 5) ?_
          refine u_callS 48 dX15_parts_45 rfl cs_X15_85 (u_X15_two hR (k := (i + 5)) (by omega) (by omega)) rfl rfl (Nat.le_of_ble_eq_true rfl) (by decide) ⟨by omega, by omega⟩ ?_
          have w45 := wd_lt (k := (i + 5)) hq
          refine e_iadd 49 (v := (nI ((wd q (i + 3)) + (wd q (i + 5))))) dX15_parts_48 rfl (nI_add (wd q (i + 3)) (wd q (i + 5))) ?_
          refine e_aload_n 50 dX15_parts_49 rfl rfl ?_
          refine e_get 53 dX15_parts_50 rfl fl_X15_144_10 v0 rfl ?_
          refine e_iload 55 dX15_parts_53 rfl rfl ?_
          refine v_iald 56 v10 (k := i15) (x := (rwM (dS s 0) i15).length) dX15_parts_55 rfl (by simp only [szs_len] <;> omega) (by omega) szs_at ?_
          refine e_icmp_le 61 59 dX15_parts_56 rfl rfl (fun c56 => ?_) (fun c56 => ?_)
          · have k56 := j_le_t (a := ((wd q (i + 3)) + (wd q (i + 5)))) (b := ((rwM (dS s 0) i15).length)) (by omega) (by omega) c56
            refine e_iload_n 62 dX15_parts_61 rfl rfl ?_
            refine e_bipush 64 (v := (nI 7)) dX15_parts_62 rfl (by decide) ?_
            refine e_aload_n 65 dX15_parts_64 rfl rfl ?_
            refine e_iconst 66 (v := (nI 0)) dX15_parts_65 rfl (by decide) ?_
            have b66 := gd_lt (i := 0) hq (by decide)
            refine v_iald 67 hR (k := 0) (x := (q.getD 0 0)) dX15_parts_66 rfl (by omega) (by omega) rfl ?_
            refine e_bipush 69 (v := (nI 21)) dX15_parts_67 rfl (by decide) ?_
            refine e_icmp_ne 84 72 dX15_parts_69 rfl rfl (fun c69 => ?_) (fun c69 => ?_)
            · have k69 := j_ne_t (a := (q.getD 0 0)) (b := 21) (by omega) (by omega) c69
              refine e_iconst 85 (v := (nI 0)) dX15_parts_84 rfl (by decide) ?_
              refine e_iadd 86 (v := (nI (7 + 0))) dX15_parts_85 rfl (nI_add 7 0) ?_
              refine e_iadd 87 (v := (nI (i + (7 + 0)))) dX15_parts_86 rfl (nI_add i (7 + 0)) ?_
              refine e_istore_n 88 (ls' := [some (.ref d), some (.ref a), some (.int (nI q.length)), some (.int (nI (i + (7 + 0)))), some (.int (nI i15))]) dX15_parts_87 rfl (by decide) rfl ?_
              refine e_goto 2 dX15_parts_88 rfl ?_
              refine e_wk [some (.ref d), some (.ref a), some (.int (nI q.length)), some (.int (nI (i + (7 + 0)))), none] ⟨rfl, rfl, rfl, rfl, trivial⟩ ?_
              obtain ⟨t, rfl⟩ : ∃ t1, t = t1 + 1 := ⟨t - 1, by omega⟩
              exact ih (p + 1) t (i + 7) (by omega) (by omega) (by omega) (by omega) (Or.inl (by omega)) (by rw [← hff, ffF, if_pos (show i < q.length by omega), if_pos (show fpF (dS s 0) q i = true by (rw [fpF_s hx15]; exact decide_eq_true (by omega))), hvb.2 k69, Nat.zero_mul])
            · have k69 := j_ne_f (a := (q.getD 0 0)) (b := 21) (by omega) (by omega) c69
              refine e_iconst 73 (v := (nI 2)) dX15_parts_72 rfl (by decide) ?_
              refine e_aload_n 74 dX15_parts_73 rfl rfl ?_
              refine e_iload_n 75 dX15_parts_74 rfl rfl ?_
              refine e_iconst 76 (v := (nI 5)) dX15_parts_75 rfl (by decide) ?_
              refine e_iadd 77 (v := (nI (i + 5))) dX15_parts_76 rfl (nI_add i 5) ?_
              refine u_callS 80 dX15_parts_77 rfl cs_X15_85 (u_X15_two hR (k := (i + 5)) (by omega) (by omega)) rfl rfl (Nat.le_of_ble_eq_true rfl) (by decide) ⟨by omega, by omega⟩ ?_
              have w77 := wd_lt (k := (i + 5)) hq
              refine e_imul 81 (v := (nI (2 * (wd q (i + 5))))) dX15_parts_80 rfl (pk_mul 2 (wd q (i + 5))) ?_
              refine e_goto 85 dX15_parts_81 rfl ?_
              refine e_iadd 86 (v := (nI (7 + (2 * (wd q (i + 5)))))) dX15_parts_85 rfl (nI_add 7 (2 * (wd q (i + 5)))) ?_
              refine e_iadd 87 (v := (nI (i + (7 + (2 * (wd q (i + 5))))))) dX15_parts_86 rfl (nI_add i (7 + (2 * (wd q (i + 5))))) ?_
              refine e_istore_n 88 (ls' := [some (.ref d), some (.ref a), some (.int (nI q.length)), some (.int (nI (i + (7 + (2 * (wd q (i + 5))))))), some (.int (nI i15))]) dX15_parts_87 rfl (by decide) rfl ?_
              refine e_goto 2 dX15_parts_88 rfl ?_
              refine e_wk [some (.ref d), some (.ref a), some (.int (nI q.length)), some (.int (nI (i + (7 + 2 * wd q (i + 5))))), none] ⟨rfl, rfl, rfl, rfl, trivial⟩ ?_
              obtain ⟨t, rfl⟩ : ∃ t1, t = t1 + 1 := ⟨t - 1, by omega⟩
              exact ih (p + 1) t (i + (7 + 2 * wd q (i + 5))) (by omega) (by omega) (by omega) (by omega) (Or.inr ⟨k69, by rcases hi9 with z | z; exact absurd k69 (by omega); have z2 := z.2; rw [wpE, if_pos (by omega)] at z2; exact z2⟩) (by rw [← hff, ffF, if_pos (show i < q.length by omega), if_pos (show fpF (dS s 0) q i = true by (rw [fpF_s hx15]; exact decide_eq_true (by omega))), hvb.1 k69])
          · have k56 := j_le_f (a := ((wd q (i + 3)) + (wd q (i + 5)))) (b := ((rwM (dS s 0) i15).length)) (by omega) (by omega) c56
            refine e_iconst 60 (v := (nI 2)) dX15_parts_59 rfl (by decide) ?_
            exact e_iret dX15_parts_60 rfl (by omega) (by omega) (⟨by rw [← hff, show t = t - 1 + 1 by omega, ffF, if_pos (by omega), if_neg (by rw [show fpF (dS s 0) q i = false by (rw [fpF_s hx15]; exact decide_eq_false (by omega))]; decide)], rfl⟩)
set_option maxRecDepth 20000 in
set_option maxHeartbeats 2000000 in
theorem u_X15_parts {d a qn : Nat} {q : List Nat} {s : DS} {h : eH} (hv : rdV d s h) (he : okE s) (hok : okD s) (hR : iaR a qn q h) (hqn : qn < 100000) (hq : ∀ x ∈ q, x < 256) (h1 : 1 ≤ q.length) (hl9 : q.length ≤ 253) {vb : Nat} (hvb : (q.getD 0 0 = 21 → vb = 2) ∧ (q.getD 0 0 ≠ 21 → vb = 0)) (hi9 : ((q.getD 0 0 = 20 ∧ (q.length - 2) % 7 = 0 ∧ 2 ≤ q.length) ∨ (q.getD 0 0 = 21 ∧ wpE q 36 2 = q.length))) : PC mX15_parts [.ref d, .ref a, .int (nI q.length)] h (some (.int (nI (ffF (dS s 0) q vb 36 2)))) 1 22 := by
  refine PC.mk 2 (ls := [some (.ref d), some (.ref a), some (.int (nI q.length)), none, none]) rfl rfl (Nat.le_of_ble_eq_true rfl) rfl ?_
  refine e_iconst 1 (v := (nI 2)) dX15_parts_0 rfl (by decide) ?_
  refine e_istore_n 2 (ls' := [some (.ref d), some (.ref a), some (.int (nI q.length)), some (.int (nI 2)), none]) dX15_parts_1 rfl (by decide) rfl ?_
  exact ul_parts hv he hok hR hqn hq h1 hl9 hvb 38 0 36 2 (by omega) (by omega) (by omega) (by omega) hi9 rfl
