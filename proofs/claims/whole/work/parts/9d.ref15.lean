/-! the reference: files -/
theorem ff_in {M : List (Nat × List Nat)} {q : List Nat} {vb t i : Nat} (h : ffF M q vb (t + 1) i = 0) (hi : i < q.length) : fpF M q i = true ∧ ffF M q vb t (i + (7 + vb * wd q (i + 5))) = 0 := by
  rw [ffF, if_pos hi] at h
  by_cases z : fpF M q i = true
  · rw [if_pos z] at h; exact ⟨z, h⟩
  · rw [if_neg z] at h; cases h
theorem fp_s {M : List (Nat × List Nat)} {q : List Nat} {i : Nat} (h : fpF M q i = true) : ∃ k, ixM M (nI (wd q (i + 1))) = some k ∧ wd q (i + 3) + wd q (i + 5) ≤ (rwM M k).length := by
  cases hx : ixM M (nI (wd q (i + 1))) with
  | none => rw [fpF_n hx] at h; cases h
  | some k => rw [fpF_s hx] at h; exact ⟨k, rfl, (of_decide_eq_true h).2⟩
theorem ixM_k {M : List (Nat × List Nat)} {x : Int32} : ixM M x = (kys M).findIdx? (fun k => nI k == x) := by
  rw [ixM, kys, List.findIdx?_map]
  rfl
theorem fp_cg {M M' : List (Nat × List Nat)} {q : List Nat} {i : Nat} (h1 : kys M = kys M') (h2 : szs M = szs M') : fpF M q i = fpF M' q i := by
  cases hx : ixM M (nI (wd q (i + 1))) with
  | none => rw [fpF_n hx, fpF_n (by rw [ixM_k, ← h1, ← ixM_k, hx])]
  | some k => rw [fpF_s hx, fpF_s (k := k) (by rw [ixM_k, ← h1, ← ixM_k, hx]), ← szs_at, ← szs_at, h2]
def flD (s : DS) (M : List (Nat × List Nat)) : DS := (s.1, s.2.1, s.2.2.1, s.2.2.2.1, s.2.2.2.2.1, upM s.2.2.2.2.2.1 0 M, s.2.2.2.2.2.2)
theorem okE_fl {s : DS} {M : List (Nat × List Nat)} (h : okE s) (hM : shO 4 120 65536 M) : okE (flD s M) := by
  obtain ⟨e1, e2, e3, e4, e5⟩ := h
  exact ⟨e1, e2, e3, ⟨hM, e4.2⟩, e5⟩
theorem cf_close {d i : Nat} {s : DS} {A : Nat → Nat} {r : List Nat} {M : List (Nat × List Nat)} {X : List sA} {h : eH} (hi : i < M.length) (hr : r.length = (rwM M i).length) (hL : stars (pt d (.inr (10, rdF A (flD s M))) :: iar (A 17) 4 (kys M) :: iar (A 18) 4 (szs M) :: grd (A 19) 4 120 (upL (rwM M) i r) :: rRf A (flD s M) :: X) h) : stars (rdv d (flD s (stM M i r)) :: X) h := by
  have e : szs M = szs (stM M i r) := by
    rw [szs_st, hr]
    refine (List.ext_getElem (by simp) (fun j h1 h2 => ?_)).symm
    rw [List.getElem_set]
    split
    · rename_i z
      subst z
      simp only [szs, List.getElem_map]
      rw [rwM_at hi]
    · rfl
  rw [← rwM_st hi, ← kys_st (i := i) (r := r), e] at hL
  have k := rdv_cf (M := stM M i r) (s := flD s M) (fs' := rdF A (flD s M)) (congrArg (fun n => (rdF A (flD s M)).set 16 (.int (nI n))) stM_len) hL
  rw [show (flD s (stM M i r)) = ((flD s M).1, (flD s M).2.1, (flD s M).2.2.1, (flD s M).2.2.2.1, (flD s M).2.2.2.2.1, upM (flD s M).2.2.2.2.2.1 0 (stM M i r), (flD s M).2.2.2.2.2.2) by simp only [flD, upM_up]]
  exact k
theorem wfS_k {M : List (Nat × List Nat)} {q : List Nat} {i : Nat} : kys (wfS q M i) = kys M ∧ szs (wfS q M i) = szs M := by
  unfold wfS
  split
  · exact ⟨rfl, rfl⟩
  · rename_i k hk
    refine ⟨kys_st, ?_⟩
    rw [szs_st, wvF_len]
    refine List.ext_getElem (by simp) (fun j h1 h2 => ?_)
    rw [List.getElem_set]
    split
    · rename_i z
      subst z
      simp only [szs, List.getElem_map]
      rw [rwM_at (ixM_lt hk)]
    · rfl
theorem wfS_s {M : List (Nat × List Nat)} {q : List Nat} {i k : Nat} (h : ixM M (nI (wd q (i + 1))) = some k) : wfS q M i = stM M k (wvF q (wd q (i + 3)) (i + 7) (rwM M k) (wd q (i + 5))) := by rw [wfS, h]
set_option maxRecDepth 20000 in
set_option maxHeartbeats 2000000 in
theorem l_X15_reads1 {m d a qn : Nat} {F w : Nat → Nat} {bg : Bool} {s : DS} {q : List Nat} (he : okE s) (hM : okM 65536 (dS s 0)) (hqn : qn < 100000) (hq : ∀ x ∈ q, x < 256) (hl9 : q.length ≤ 253) {T : Nat} (h7 : q.length = 2 + 7 * T) (hT : rdS q T ≤ 253) {j k : Nat} (hj : j < T) (hk : k < (dS s 0).length) (hf : wd q ((2 + 7 * j) + 3) + wd q ((2 + 7 * j) + 5) ≤ (rwM (dS s 0) k).length) (hs : rdS q j + (2 + 2 * (wd q ((2 + 7 * j) + 5))) ≤ 253) {Q : Option Value → eH → Prop} (kk : ∀ h : eH, stars [ansP m F w bg (rfR (dS s 0) q j ++ rfP (rwM (dS s 0) k) q (2 + 7 * j) (wd q ((2 + 7 * j) + 5))), rdv d s, iar a qn q] h → EE mX15_reads 2 42 0 0 Q 99 [some (.ref m), some (.ref d), some (.ref a), some (.int (nI q.length)), some (.int (nI (2 + 7 * j))), none, none, none] [] h 0 0) : ∀ (n : Nat) (i : Nat) (h : eH), (wd q ((2 + 7 * j) + 5)) - i < n → i ≤ (wd q ((2 + 7 * j) + 5)) → stars [ansP m F w bg (rfR (dS s 0) q j ++ rfP (rwM (dS s 0) k) q (2 + 7 * j) i), rdv d s, iar a qn q] h → EE mX15_reads 2 42 0 0 (Q) 63 [some (.ref m), some (.ref d), some (.ref a), some (.int (nI q.length)), some (.int (nI (2 + 7 * j))), some (.int (nI k)), some (.int (nI (wd q ((2 + 7 * j) + 5)))), some (.int (nI i))] [] h 0 0 := by
  intro n
  induction n with
  | zero => intro i h hlt hle hL; exact absurd hlt (by omega)
  | succ n ih =>
    intro i h hlt hle hL
    have hsh := okE_sh he
    have hs0 := shO_le hsh.1
    have hrl := (shO_at hsh.1 (by decide) k).2
    have hqle := (iar_V _ 2 hL rfl).le
    have hwj := wd_lt (k := (2 + 7 * j) + 5) hq
    have hv := rdv_V _ 1 hL rfl
    obtain ⟨A, v0, v1, v2, v3, v4, v5, v6, v7, v8, v9, v10, v11, v12, v13, v14, v15, v16, v17, v18, v19, v20, v21⟩ := hv
    refine e_iload 65 dX15_reads_63 rfl rfl ?_
    refine e_iload 67 dX15_reads_65 rfl rfl ?_
    refine e_icmp_ge 99 70 dX15_reads_67 rfl rfl (fun c67 => ?_) (fun c67 => ?_)
    · have k67 := j_ge_t (a := i) (b := (wd q ((2 + 7 * j) + 5))) (by omega) (by omega) c67
      have e9 : i = (wd q ((2 + 7 * j) + 5)) := by omega
      rw [e9] at hL
      refine e_wk [some (.ref m), some (.ref d), some (.ref a), some (.int (nI q.length)), some (.int (nI (2 + 7 * j))), none, none, none] ⟨rfl, rfl, rfl, rfl, rfl, trivial⟩ ?_
      exact kk h hL
    · have k67 := j_ge_f (a := i) (b := (wd q ((2 + 7 * j) + 5))) (by omega) (by omega) c67
      refine e_aload_n 71 dX15_reads_70 rfl rfl ?_
      refine e_aload_n 72 dX15_reads_71 rfl rfl ?_
      refine e_get 75 dX15_reads_72 rfl fl_X15_218_10 v0 rfl ?_
      refine e_iload 77 dX15_reads_75 rfl rfl ?_
      refine v_aald 78 v11 (k := k) dX15_reads_77 rfl (by omega) (by omega) (fun b77 y77 => ?_)
      refine e_aload_n 79 dX15_reads_78 rfl rfl ?_
      refine e_iload 81 dX15_reads_79 rfl rfl ?_
      refine e_iconst 82 (v := (nI 3)) dX15_reads_81 rfl (by decide) ?_
      refine e_iadd 83 (v := (nI ((2 + 7 * j) + 3))) dX15_reads_82 rfl (nI_add (2 + 7 * j) 3) ?_
      refine u_callS 86 dX15_reads_83 rfl cs_X15_85 (u_X15_two (iar_V _ 2 hL rfl) (k := ((2 + 7 * j) + 3)) (by omega) (by omega)) rfl rfl (Nat.le_of_ble_eq_true rfl) (by decide) ⟨by omega, by omega⟩ ?_
      have hw83 := wd_lt (k := ((2 + 7 * j) + 3)) hq
      refine e_iload 88 dX15_reads_86 rfl rfl ?_
      refine e_iadd 89 (v := (nI ((wd q ((2 + 7 * j) + 3)) + i))) dX15_reads_88 rfl (nI_add (wd q ((2 + 7 * j) + 3)) i) ?_
      have b89 := gd_lt (i := ((wd q ((2 + 7 * j) + 3)) + i)) (okM_at (i := k) hM) (by decide)
      refine v_iald 90 y77 (k := ((wd q ((2 + 7 * j) + 3)) + i)) (x := ((rwM (dS s 0) k).getD ((wd q ((2 + 7 * j) + 3)) + i) 0)) dX15_reads_89 rfl (by omega) (by omega) rfl ?_
      refine p_callV 93 hL [0, 1, 2] 3 rfl (by decide) (L1 := [ansP m F w bg (rfR (dS s 0) q j ++ rfP (rwM (dS s 0) k) q (2 + 7 * j) i)]) (L2 := [rdv d s, iar a qn q]) rfl ans_O 0 rfl dX15_reads_90 rfl cv_X15_183 (k_X15_saysTwo (by rw [List.length_append, rfR_len, rfP_len]; omega) (by omega)) rfl rfl (Nat.le_of_ble_eq_true rfl) ⟨by decide, by omega, by omega⟩ (fun r1 L1 h q hL => ?_)
      obtain ⟨rfl, rfl⟩ := q
      have hL : stars [ansP m F w bg ((rfR (dS s 0) q j ++ rfP (rwM (dS s 0) k) q (2 + 7 * j) i) ++ w2 ((rwM (dS s 0) k).getD ((wd q ((2 + 7 * j) + 3)) + i) 0)), rdv d s, iar a qn q] h := hL
      refine e_iinc 96 (v := (nI (i + 1))) (ls' := [some (.ref m), some (.ref d), some (.ref a), some (.int (nI q.length)), some (.int (nI (2 + 7 * j))), some (.int (nI k)), some (.int (nI (wd q ((2 + 7 * j) + 5)))), some (.int (nI (i + 1)))]) dX15_reads_93 rfl rfl (nI_add i 1) (by decide) rfl ?_
      refine e_goto 63 dX15_reads_96 rfl ?_
      rw [List.append_assoc, rfP_succ] at hL
      have hL : stars [ansP m F w bg (rfR (dS s 0) q j ++ rfP (rwM (dS s 0) k) q (2 + 7 * j) (i + 1)), rdv d s, iar a qn q] h := hL
      refine e_wk [some (.ref m), some (.ref d), some (.ref a), some (.int (nI q.length)), some (.int (nI (2 + 7 * j))), some (.int (nI k)), some (.int (nI (wd q ((2 + 7 * j) + 5)))), some (.int (nI (i + 1)))] ⟨rfl, rfl, rfl, rfl, rfl, rfl, rfl, rfl, trivial⟩ ?_
      exact ih (i + 1) h (by omega) (by omega) hL
theorem rdS_ge {q : List Nat} : ∀ j, 2 ≤ rdS q j
  | 0 => Nat.le_refl _
  | j + 1 => by have := rdS_ge (q := q) j; rw [rdS]; omega
set_option maxRecDepth 20000 in
set_option maxHeartbeats 2000000 in
theorem l_X15_reads {m d a qn : Nat} {F w : Nat → Nat} {bg : Bool} {s : DS} {q : List Nat} (he : okE s) (hM : okM 65536 (dS s 0)) (hqn : qn < 100000) (hq : ∀ x ∈ q, x < 256) (hl9 : q.length ≤ 253) {T : Nat} (h7 : q.length = 2 + 7 * T) (hT : rdS q T ≤ 253) : ∀ (n : Nat) (j t : Nat) (h : eH), T - j < n → j ≤ T → j + t = 36 → ffF (dS s 0) q 0 t (2 + 7 * j) = 0 → stars [ansP m F w bg (rfR (dS s 0) q j), rdv d s, iar a qn q] h → EE mX15_reads 2 42 0 0 (fun x9 h' => ∃ K, (x9 = none ∧ K = [ansP m F w bg ((rfR (dS s 0) q T).set 1 (rdS q T - 2)), rdv d s, iar a qn q]) ∧ stars K h') 14 [some (.ref m), some (.ref d), some (.ref a), some (.int (nI q.length)), some (.int (nI (2 + 7 * j))), none, none, none] [] h 0 0 := by
  intro n
  induction n with
  | zero => intro j t h hlt hle hjt hff hL; exact absurd hlt (by omega)
  | succ n ih =>
    intro j t h hlt hle hjt hff hL
    have hsh := okE_sh he
    have hs0 := shO_le hsh.1
    have hqle := (iar_V _ 2 hL rfl).le
    have hwj := wd_lt (k := (2 + 7 * j) + 5) hq
    refine e_iload 16 dX15_reads_14 rfl rfl ?_
    refine e_iload_n 17 dX15_reads_16 rfl rfl ?_
    refine e_icmp_ge 105 20 dX15_reads_17 rfl rfl (fun c17 => ?_) (fun c17 => ?_)
    · have k17 := j_ge_t (a := (2 + 7 * j)) (b := q.length) (by omega) (by omega) c17
      have e9 : j = T := by omega
      rw [e9] at hL
      have hrl := rfR_len (M := dS s 0) (q := q) T
      have hge := rdS_ge (q := q) T
      have hL := ans_o hL
      have hL : stars [pt m (.inr (13, moF F (upN w 4 (rfR (dS s 0) q T).length) bg)), iar (F 3) 300 (rfR (dS s 0) q T), rdv d s, iar a qn q] h := hL
      refine e_aload_n 106 dX15_reads_105 rfl rfl ?_
      refine e_get 109 dX15_reads_106 rfl fl_X15_15_13 (stars_at _ 0 hL rfl) rfl ?_
      refine e_iconst 110 (v := (nI 1)) dX15_reads_109 rfl (by decide) ?_
      refine e_aload_n 111 dX15_reads_110 rfl rfl ?_
      refine e_get 114 dX15_reads_111 rfl fl_X15_89_13 (stars_at _ 0 hL rfl) rfl ?_
      refine e_iconst 115 (v := (nI 2)) dX15_reads_114 rfl (by decide) ?_
      refine e_isub 116 (v := (nI (rdS q T - 2))) dX15_reads_115 rfl (by rw [hrl]; exact pk_sub hge) ?_
      refine p_iastR 117 hL 1 (r := (rfR (dS s 0) q T)) (r' := ((rfR (dS s 0) q T).set 1 (rdS q T - 2))) (k := 1) (v := (rdS q T - 2)) (L' := [pt m (.inr (13, moF F (upN w 4 (rfR (dS s 0) q T).length) bg)), iar (F 3) 300 ((rfR (dS s 0) q T).set 1 (rdS q T - 2)), rdv d s, iar a qn q]) rfl dX15_reads_116 rfl (by omega) (by omega) (iw_set (by omega) (by omega)) rfl (fun h hL => ?_)
      have hL := ans_c (r := (rfR (dS s 0) q T).set 1 (rdS q T - 2)) (by rw [List.length_set]; exact hL)
      exact e_vret dX15_reads_117 rfl (by omega) (by omega) (⟨_, ⟨rfl, rfl⟩, hL⟩)
    · have k17 := j_ge_f (a := (2 + 7 * j)) (b := q.length) (by omega) (by omega) c17
      have hj : j < T := by omega
      obtain ⟨t9, rfl⟩ : ∃ t9, t = t9 + 1 := ⟨t - 1, by omega⟩
      have ff := ff_in hff (by omega)
      obtain ⟨k, hxk, hfk⟩ := fp_s ff.1
      have hk9 := ixM_lt hxk
      have hmo := rdS_mono (q := q) (show j + 1 ≤ T by omega)
      rw [rdS] at hmo
      refine e_aload_n 21 dX15_reads_20 rfl rfl ?_
      refine e_aload_n 22 dX15_reads_21 rfl rfl ?_
      refine e_iload 24 dX15_reads_22 rfl rfl ?_
      refine e_iconst 25 (v := (nI 1)) dX15_reads_24 rfl (by decide) ?_
      refine e_iadd 26 (v := (nI ((2 + 7 * j) + 1))) dX15_reads_25 rfl (nI_add (2 + 7 * j) 1) ?_
      refine u_callS 29 dX15_reads_26 rfl cs_X15_85 (u_X15_two (iar_V _ 2 hL rfl) (k := ((2 + 7 * j) + 1)) (by omega) (by omega)) rfl rfl (Nat.le_of_ble_eq_true rfl) (by decide) ⟨by omega, by omega⟩ ?_
      have hw26 := wd_lt (k := ((2 + 7 * j) + 1)) hq
      have hv29 := rdv_V _ 1 hL rfl
      obtain ⟨A29, o29, -⟩ := id hv29
      refine u_callV 32 dX15_reads_29 rfl cv_X15_141 o29 (u_X12_fileOf hv29 he) rfl rfl (Nat.le_of_ble_eq_true rfl) (by decide) ⟨by omega, by omega⟩ ?_
      rw [hxk]
      refine e_istore 34 (ls' := [some (.ref m), some (.ref d), some (.ref a), some (.int (nI q.length)), some (.int (nI (2 + 7 * j))), some (.int (nI k)), none, none]) dX15_reads_32 rfl (by decide) rfl ?_
      refine e_aload_n 35 dX15_reads_34 rfl rfl ?_
      refine e_iload 37 dX15_reads_35 rfl rfl ?_
      refine e_iconst 38 (v := (nI 5)) dX15_reads_37 rfl (by decide) ?_
      refine e_iadd 39 (v := (nI ((2 + 7 * j) + 5))) dX15_reads_38 rfl (nI_add (2 + 7 * j) 5) ?_
      refine u_callS 42 dX15_reads_39 rfl cs_X15_85 (u_X15_two (iar_V _ 2 hL rfl) (k := ((2 + 7 * j) + 5)) (by omega) (by omega)) rfl rfl (Nat.le_of_ble_eq_true rfl) (by decide) ⟨by omega, by omega⟩ ?_
      have hw39 := wd_lt (k := ((2 + 7 * j) + 5)) hq
      refine e_istore 44 (ls' := [some (.ref m), some (.ref d), some (.ref a), some (.int (nI q.length)), some (.int (nI (2 + 7 * j))), some (.int (nI k)), some (.int (nI (wd q ((2 + 7 * j) + 5)))), none]) dX15_reads_42 rfl (by decide) rfl ?_
      refine e_aload_n 45 dX15_reads_44 rfl rfl ?_
      refine e_iconst 46 (v := (nI 1)) dX15_reads_45 rfl (by decide) ?_
      refine e_iconst 47 (v := (nI 2)) dX15_reads_46 rfl (by decide) ?_
      refine e_iload 49 dX15_reads_47 rfl rfl ?_
      refine e_imul 50 (v := (nI (2 * (wd q ((2 + 7 * j) + 5))))) dX15_reads_49 rfl (pk_mul 2 (wd q ((2 + 7 * j) + 5))) ?_
      refine e_iadd 51 (v := (nI (1 + (2 * (wd q ((2 + 7 * j) + 5)))))) dX15_reads_50 rfl (nI_add 1 (2 * (wd q ((2 + 7 * j) + 5)))) ?_
      refine p_callV 54 hL [0, 1, 2] 3 rfl (by decide) (L1 := [ansP m F w bg (rfR (dS s 0) q j)]) (L2 := [rdv d s, iar a qn q]) rfl ans_O 0 rfl dX15_reads_51 rfl cv_X15_92 (k_saysB (by simp only [List.length_append, rfR_len, List.length_cons, List.length_nil] <;> omega) (by omega)) rfl rfl (Nat.le_of_ble_eq_true rfl) ⟨by decide, by omega, by omega⟩ (fun r1 L1 h q hL => ?_)
      obtain ⟨rfl, rfl⟩ := q
      have hL : stars [ansP m F w bg ((rfR (dS s 0) q j) ++ [(1 + (2 * (wd q ((2 + 7 * j) + 5))))]), rdv d s, iar a qn q] h := hL
      refine e_aload_n 55 dX15_reads_54 rfl rfl ?_
      refine e_bipush 57 (v := (nI 6)) dX15_reads_55 rfl (by decide) ?_
      refine p_callV 60 hL [0, 1, 2] 3 rfl (by decide) (L1 := [ansP m F w bg ((rfR (dS s 0) q j) ++ [(1 + (2 * (wd q ((2 + 7 * j) + 5))))])]) (L2 := [rdv d s, iar a qn q]) rfl ans_O 0 rfl dX15_reads_57 rfl cv_X15_92 (k_saysB (by simp only [List.length_append, rfR_len, List.length_cons, List.length_nil] <;> omega) (by omega)) rfl rfl (Nat.le_of_ble_eq_true rfl) ⟨by decide, by omega, by omega⟩ (fun r1 L1 h q hL => ?_)
      obtain ⟨rfl, rfl⟩ := q
      have hL : stars [ansP m F w bg (((rfR (dS s 0) q j) ++ [(1 + (2 * (wd q ((2 + 7 * j) + 5))))]) ++ [6]), rdv d s, iar a qn q] h := hL
      refine e_iconst 61 (v := (nI 0)) dX15_reads_60 rfl (by decide) ?_
      refine e_istore 63 (ls' := [some (.ref m), some (.ref d), some (.ref a), some (.int (nI q.length)), some (.int (nI (2 + 7 * j))), some (.int (nI k)), some (.int (nI (wd q ((2 + 7 * j) + 5)))), some (.int (nI 0))]) dX15_reads_61 rfl (by decide) rfl ?_
      rw [List.append_assoc] at hL
      refine l_X15_reads1 he hM hqn hq hl9 h7 hT hj hk9 hfk (by omega) (fun h hL => ?_) _ 0 h (Nat.lt_succ_self _) (Nat.zero_le _) hL
      rw [← rfV_s hxk] at hL
      have hL : stars [ansP m F w bg (rfR (dS s 0) q (j + 1)), rdv d s, iar a qn q] h := hL
      refine e_iinc 102 (v := (nI ((2 + 7 * j) + 7))) (ls' := [some (.ref m), some (.ref d), some (.ref a), some (.int (nI q.length)), some (.int (nI ((2 + 7 * j) + 7))), none, none, none]) dX15_reads_99 rfl rfl (nI_add (2 + 7 * j) 7) (by decide) rfl ?_
      refine e_goto 14 dX15_reads_102 rfl ?_
      refine e_wk [some (.ref m), some (.ref d), some (.ref a), some (.int (nI q.length)), some (.int (nI (2 + 7 * (j + 1)))), none, none, none] ⟨rfl, rfl, rfl, rfl, by rw [show 2 + 7 * (j + 1) = 2 + 7 * j + 7 by omega], trivial⟩ ?_
      exact ih (j + 1) t9 h (by omega) (by omega) (by omega) (by have f2 := ff.2; rw [Nat.zero_mul] at f2; rw [show 2 + 7 * (j + 1) = 2 + 7 * j + (7 + 0) by omega]; exact f2) hL
set_option maxRecDepth 20000 in
set_option maxHeartbeats 2000000 in
theorem k_X15_reads {m d a qn : Nat} {F w : Nat → Nat} {bg : Bool} {s : DS} {q : List Nat} (he : okE s) (hM : okM 65536 (dS s 0)) (hqn : qn < 100000) (hq : ∀ x ∈ q, x < 256) (hl9 : q.length ≤ 253) {T : Nat} (h7 : q.length = 2 + 7 * T) (hT : rdS q T ≤ 253) (hff : ffF (dS s 0) q 0 36 2 = 0) : CA mX15_reads [.ref m, .ref d, .ref a, .int (nI q.length)] [ansP m F w bg ([]), rdv d s, iar a qn q] (fun x9 K => x9 = none ∧ K = [ansP m F w bg ((rfR (dS s 0) q T).set 1 (rdS q T - 2)), rdv d s, iar a qn q]) 2 42 0 0 := by
  refine CA.mk 4 (ls := [some (.ref m), some (.ref d), some (.ref a), some (.int (nI q.length)), none, none, none, none]) rfl rfl (Nat.le_of_ble_eq_true rfl) rfl (fun h hL => ?_)
  refine e_aload_n 1 dX15_reads_0 rfl rfl ?_
  refine e_bipush 3 (v := (nI 20)) dX15_reads_1 rfl (by decide) ?_
  refine p_callV 6 hL [0, 1, 2] 3 rfl (by decide) (L1 := [ansP m F w bg ([])]) (L2 := [rdv d s, iar a qn q]) rfl ans_O 0 rfl dX15_reads_3 rfl cv_X15_92 (k_saysB (by first | omega | (simp only [List.length_append, List.length_cons, List.length_nil, w2_len, List.length_take, rbR_len, rwR_len, List.length_reverse, tvR_len] <;> omega)) (by omega)) rfl rfl (Nat.le_of_ble_eq_true rfl) ⟨by decide, by omega, by omega⟩ (fun r1 L1 h q hL => ?_)
  obtain ⟨rfl, rfl⟩ := q
  have hL : stars [ansP m F w bg ([] ++ [20]), rdv d s, iar a qn q] h := hL
  refine e_aload_n 7 dX15_reads_6 rfl rfl ?_
  refine e_iconst 8 (v := (nI 0)) dX15_reads_7 rfl (by decide) ?_
  refine p_callV 11 hL [0, 1, 2] 3 rfl (by decide) (L1 := [ansP m F w bg ([] ++ [20])]) (L2 := [rdv d s, iar a qn q]) rfl ans_O 0 rfl dX15_reads_8 rfl cv_X15_92 (k_saysB (by first | omega | (simp only [List.length_append, List.length_cons, List.length_nil, w2_len, List.length_take, rbR_len, rwR_len, List.length_reverse, tvR_len] <;> omega)) (by omega)) rfl rfl (Nat.le_of_ble_eq_true rfl) ⟨by decide, by omega, by omega⟩ (fun r1 L1 h q hL => ?_)
  obtain ⟨rfl, rfl⟩ := q
  have hL : stars [ansP m F w bg (([] ++ [20]) ++ [0]), rdv d s, iar a qn q] h := hL
  refine e_iconst 12 (v := (nI 2)) dX15_reads_11 rfl (by decide) ?_
  refine e_istore 14 (ls' := [some (.ref m), some (.ref d), some (.ref a), some (.int (nI q.length)), some (.int (nI 2)), none, none, none]) dX15_reads_12 rfl (by decide) rfl ?_
  refine e_wk [some (.ref m), some (.ref d), some (.ref a), some (.int (nI q.length)), some (.int (nI (2 + 7 * 0))), none, none, none] ⟨rfl, rfl, rfl, rfl, rfl, trivial⟩ ?_
  exact l_X15_reads he hM hqn hq hl9 h7 hT _ 0 36 h (Nat.lt_succ_self _) (Nat.zero_le _) rfl hff hL
