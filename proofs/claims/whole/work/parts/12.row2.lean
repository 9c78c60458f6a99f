set_option maxRecDepth 20000 in
set_option maxHeartbeats 2000000 in
theorem l_X4_addPart {h : eH} {a c cap a2 c2 cap2 : Nat} {r r2 : List Nat} (hd : a ≠ a2 ∧ c ≠ c2) {s m : Nat} (hs : s < 100000) (hm : m < 100000) : ∀ (j i : Nat) (hh : eH) (r1 : List Nat), i + j = m → rwAt hh a c cap r1 → rwAt hh a2 c2 cap2 r2 → sm h hh [a, c] → r1 = (r ++ pf r2 s i).take cap → EE mX4_addPart 0 0 0 0 (fun x h' => x = none ∧ rwAt h' a c cap ((r ++ pf r2 s m).take cap) ∧ sm h h' [a, c]) 3 [some (.ref a), some (.ref a2), some (.int (nI s)), some (.int (nI m)), some (.int (nI i)), none] [] hh 0 0 := by
  intro j
  induction j with
  | zero =>
    intro i hh r1 hj hr1 hr2 hs1 e1
    have hx1 := hr2.ne2 hr1
    have hx2 := hr1.ne2 hr2
    obtain ⟨f, ha, hc, hn, hcap, hf⟩ := id hr1
    obtain ⟨f2, ha2, hc2, hn2, hcap2, hf2⟩ := id hr2
    refine e_iload 5 dX4_addPart_3 rfl rfl ?_
    refine e_iload_n 6 dX4_addPart_5 rfl rfl ?_
    refine e_icmp_ge 77 9 dX4_addPart_6 rfl rfl (fun c6 => ?_) (fun c6 => absurd c6 (fun z => z (nI_le (by omega) (by omega))))
    exact e_vret dX4_addPart_77 rfl (by omega) (by omega) (⟨rfl, by rw [show m = i by omega, ← e1]; exact hr1, hs1⟩)
  | succ j ih =>
    intro i hh r1 hj hr1 hr2 hs1 e1
    have hx1 := hr2.ne2 hr1
    have hx2 := hr1.ne2 hr2
    obtain ⟨f, ha, hc, hn, hcap, hf⟩ := id hr1
    obtain ⟨f2, ha2, hc2, hn2, hcap2, hf2⟩ := id hr2
    refine e_iload 5 dX4_addPart_3 rfl rfl ?_
    refine e_iload_n 6 dX4_addPart_5 rfl rfl ?_
    refine e_icmp_ge 77 9 dX4_addPart_6 rfl rfl (fun c6 => ?_) (fun c6 => ?_)
    · have k6 := j_ge_t (a := i) (b := m) (by omega) (by omega) c6
      exact e_vret dX4_addPart_77 rfl (by omega) (by omega) (⟨rfl, by rw [show m = i by omega, ← e1]; exact hr1, hs1⟩)
    · have k6 := j_ge_f (a := i) (b := m) (by omega) (by omega) c6
      refine e_aload_n 10 dX4_addPart_9 rfl rfl ?_
      refine e_get 13 dX4_addPart_10 rfl fl_X4_15_4 ha rfl ?_
      refine e_aload_n 14 dX4_addPart_13 rfl rfl ?_
      refine e_get 17 dX4_addPart_14 rfl fl_X4_9_4 ha rfl ?_
      refine e_alen 18 (v := (nI cap)) dX4_addPart_17 rfl hc rfl rfl ?_
      refine e_icmp_ge 77 21 dX4_addPart_18 rfl rfl (fun c18 => ?_) (fun c18 => ?_)
      · have k18 := j_ge_t (a := r1.length) (b := cap) (by omega) (by omega) c18
        exact e_vret dX4_addPart_77 rfl (by omega) (by omega) (⟨rfl, by rw [← pf_full (i := i) (by rw [← e1]; exact k18) (by omega), ← e1]; exact hr1, hs1⟩)
      · have k18 := j_ge_f (a := r1.length) (b := cap) (by omega) (by omega) c18
        refine e_iload_n 22 dX4_addPart_21 rfl rfl ?_
        refine e_iload 24 dX4_addPart_22 rfl rfl ?_
        refine e_iadd 25 (v := (nI (s + i))) dX4_addPart_24 rfl (nI_add s i) ?_
        refine e_istore 27 (ls' := [some (.ref a), some (.ref a2), some (.int (nI s)), some (.int (nI m)), some (.int (nI i)), some (.int (nI (s + i)))]) dX4_addPart_25 rfl (by decide) rfl ?_
        refine e_aload_n 28 dX4_addPart_27 rfl rfl ?_
        refine e_get 31 dX4_addPart_28 rfl fl_X4_9_4 ha rfl ?_
        refine e_aload_n 32 dX4_addPart_31 rfl rfl ?_
        refine e_get 35 dX4_addPart_32 rfl fl_X4_15_4 ha rfl ?_
        refine e_iload 37 dX4_addPart_35 rfl rfl ?_
        refine e_if_lt 59 40 dX4_addPart_37 rfl rfl (fun c37 => absurd c37 (nI_pos (by omega))) (fun c37 => ?_)
        refine e_iload 42 dX4_addPart_40 rfl rfl ?_
        refine e_aload_n 43 dX4_addPart_42 rfl rfl ?_
        refine e_get 46 dX4_addPart_43 rfl fl_X4_15_4 ha2 rfl ?_
        refine e_icmp_ge 59 49 dX4_addPart_46 rfl rfl (fun c46 => ?_) (fun c46 => ?_)
        · have k46 := j_ge_t (a := (s + i)) (b := r2.length) (by omega) (by omega) c46
          refine e_iconst 60 (v := (nI 0)) dX4_addPart_59 rfl (by decide) ?_
          refine e_iast' 61 (k := r1.length) dX4_addPart_60 rfl hc (vp_in_nI (by omega) (by omega)) (nI_clamp (by omega)) ?_
          refine e_aload_n 62 dX4_addPart_61 rfl rfl ?_
          refine e_dup 63 dX4_addPart_62 rfl rfl ?_
          refine e_get 66 dX4_addPart_63 rfl fl_X4_15_4 ((e_up_n (e_ne_oa ha hc)).trans ha) rfl ?_
          refine e_iconst 67 (v := (nI 1)) dX4_addPart_66 rfl (by decide) ?_
          refine e_iadd 68 (v := (nI (r1.length + 1))) dX4_addPart_67 rfl (nI_add r1.length 1) ?_
          refine e_put 71 (fs' := [.ref c, .int (nI (r1.length + 1))]) dX4_addPart_68 rfl fp_X4_15_4 (Or.inl rfl) ((e_up_n (e_ne_oa ha hc)).trans ha) (Nat.le_of_ble_eq_true rfl) rfl rfl rfl ?_
          refine e_iinc 74 (v := (nI (i + 1))) (ls' := [some (.ref a), some (.ref a2), some (.int (nI s)), some (.int (nI m)), some (.int (nI (i + 1))), some (.int (nI (s + i)))]) dX4_addPart_71 rfl rfl (nI_add i 1) (by decide) rfl ?_
          refine e_goto 3 dX4_addPart_74 rfl ?_
          refine e_wk [some (.ref a), some (.ref a2), some (.int (nI s)), some (.int (nI m)), some (.int (nI (i + 1))), none] ⟨rfl, rfl, rfl, rfl, rfl, trivial⟩ ?_
          exact ih (i + 1) _ (r1 ++ [r2.getD (s + i) 0]) (by omega) (by rw [gd_out (by omega)]; exact rwAt.push ha hc k18 hcap hf) (hr2.keep (S := [a, c]) ((sm.rf.up (by simp)).up (by simp)) (by simp [Ne.symm hd.1, hx1]) (by simp [Ne.symm hx2, Ne.symm hd.2])) ((hs1.up (by simp)).up (by simp)) (by rw [e1]; exact pf_step (by rw [← e1]; exact k18))
        · have k46 := j_ge_f (a := (s + i)) (b := r2.length) (by omega) (by omega) c46
          refine e_aload_n 50 dX4_addPart_49 rfl rfl ?_
          refine e_get 53 dX4_addPart_50 rfl fl_X4_9_4 ha2 rfl ?_
          refine e_iload 55 dX4_addPart_53 rfl rfl ?_
          refine e_iald 56 (v := (nI (r2.getD (s + i) 0))) dX4_addPart_55 rfl hc2 (vp_in_nI (by omega) (by omega)) ((congrArg f2 (nI_clamp (by omega))).trans (hf2 _ (by omega))) ?_
          refine e_goto 60 dX4_addPart_56 rfl ?_
          refine e_iast' 61 (k := r1.length) dX4_addPart_60 rfl hc (vp_in_nI (by omega) (by omega)) (nI_clamp (by omega)) ?_
          refine e_aload_n 62 dX4_addPart_61 rfl rfl ?_
          refine e_dup 63 dX4_addPart_62 rfl rfl ?_
          refine e_get 66 dX4_addPart_63 rfl fl_X4_15_4 ((e_up_n (e_ne_oa ha hc)).trans ha) rfl ?_
          refine e_iconst 67 (v := (nI 1)) dX4_addPart_66 rfl (by decide) ?_
          refine e_iadd 68 (v := (nI (r1.length + 1))) dX4_addPart_67 rfl (nI_add r1.length 1) ?_
          refine e_put 71 (fs' := [.ref c, .int (nI (r1.length + 1))]) dX4_addPart_68 rfl fp_X4_15_4 (Or.inl rfl) ((e_up_n (e_ne_oa ha hc)).trans ha) (Nat.le_of_ble_eq_true rfl) rfl rfl rfl ?_
          refine e_iinc 74 (v := (nI (i + 1))) (ls' := [some (.ref a), some (.ref a2), some (.int (nI s)), some (.int (nI m)), some (.int (nI (i + 1))), some (.int (nI (s + i)))]) dX4_addPart_71 rfl rfl (nI_add i 1) (by decide) rfl ?_
          refine e_goto 3 dX4_addPart_74 rfl ?_
          refine e_wk [some (.ref a), some (.ref a2), some (.int (nI s)), some (.int (nI m)), some (.int (nI (i + 1))), none] ⟨rfl, rfl, rfl, rfl, rfl, trivial⟩ ?_
          exact ih (i + 1) _ (r1 ++ [r2.getD (s + i) 0]) (by omega) (by exact rwAt.push ha hc k18 hcap hf) (hr2.keep (S := [a, c]) ((sm.rf.up (by simp)).up (by simp)) (by simp [Ne.symm hd.1, hx1]) (by simp [Ne.symm hx2, Ne.symm hd.2])) ((hs1.up (by simp)).up (by simp)) (by rw [e1]; exact pf_step (by rw [← e1]; exact k18))
set_option maxRecDepth 20000 in
set_option maxHeartbeats 2000000 in
theorem c_X4_addPart {h : eH} {a c cap a2 c2 cap2 : Nat} {r r2 : List Nat} (hr : rwAt h a c cap r) (hr2 : rwAt h a2 c2 cap2 r2) (hd : a ≠ a2 ∧ c ≠ c2) {s m : Nat} (hs : s < 100000) (hm : m < 100000) : Ct mX4_addPart [.ref a, .ref a2, .int (nI s), .int (nI m)] h (fun x h' => x = none ∧ rwAt h' a c cap ((r ++ pf r2 s m).take cap) ∧ sm h h' [a, c]) 0 0 0 0 := by
  refine Ct.mk 2 (ls := [some (.ref a), some (.ref a2), some (.int (nI s)), some (.int (nI m)), none, none]) rfl rfl (Nat.le_of_ble_eq_true rfl) rfl ?_
  refine e_iconst 1 (v := (nI 0)) dX4_addPart_0 rfl (by decide) ?_
  refine e_istore 3 (ls' := [some (.ref a), some (.ref a2), some (.int (nI s)), some (.int (nI m)), some (.int (nI 0)), none]) dX4_addPart_1 rfl (by decide) rfl ?_
  exact l_X4_addPart hd hs hm m 0 h r (by omega) hr hr2 sm.rf (by obtain ⟨f, ha, hc, hn, q⟩ := hr; simp [pf, List.take_of_length_le hn])
