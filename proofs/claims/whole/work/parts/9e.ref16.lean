/-! the reference: writes -/
set_option maxRecDepth 20000 in
set_option maxHeartbeats 2000000 in
theorem l_X15_writes1 {d a qn : Nat} {s : DS} {q : List Nat} (he : okE s) (hqn : qn < 100000) (hq : ∀ x ∈ q, x < 256) (hl9 : q.length ≤ 253) {p k b19 : Nat} {M : List (Nat × List Nat)} {A : Nat → Nat} {R19 : sA} (hM : shO 4 120 65536 M) (hp : p + 7 + 2 * (wd q (p + 5)) ≤ q.length) (hk : k < M.length) (hf : (wd q (p + 3)) + (wd q (p + 5)) ≤ (rwM M k).length) (hR : ∀ h, R19 h → grP (A 19) 4 k b19 h) {Q : Option Value → eH → Prop} (kk : ∀ h : eH, stars [iar b19 120 (wvF q (wd q (p + 3)) (p + 7) (rwM M k) (wd q (p + 5))), R19, pt d (.inr (10, rdF A (flD s M))), iar (A 17) 4 (kys M), iar (A 18) 4 (szs M), rRf A (flD s M), iar a qn q] h → EE mX15_writes 1 22 0 0 Q 76 [some (.ref d), some (.ref a), some (.int (nI q.length)), some (.int (nI p)), some (.int (nI k)), some (.int (nI (wd q (p + 5)))), none] [] h 0 0) : ∀ (n : Nat) (i : Nat) (h : eH), (wd q (p + 5)) - i < n → i ≤ (wd q (p + 5)) → stars [iar b19 120 (wvF q (wd q (p + 3)) (p + 7) (rwM M k) i), R19, pt d (.inr (10, rdF A (flD s M))), iar (A 17) 4 (kys M), iar (A 18) 4 (szs M), rRf A (flD s M), iar a qn q] h → EE mX15_writes 1 22 0 0 (Q) 32 [some (.ref d), some (.ref a), some (.int (nI q.length)), some (.int (nI p)), some (.int (nI k)), some (.int (nI (wd q (p + 5)))), some (.int (nI i))] [] h 0 0 := by
  intro n
  induction n with
  | zero => intro i h hlt hle hL; exact absurd hlt (by omega)
  | succ n ih =>
    intro i h hlt hle hL
    have hs4 := shO_le hM
    have hrl := (shO_at hM (by decide) k).2
    have hqle := (iar_V _ 6 hL rfl).le
    refine e_iload 34 dX15_writes_32 rfl rfl ?_
    refine e_iload 36 dX15_writes_34 rfl rfl ?_
    refine e_icmp_ge 76 39 dX15_writes_36 rfl rfl (fun c36 => ?_) (fun c36 => ?_)
    · have k36 := j_ge_t (a := i) (b := (wd q (p + 5))) (by omega) (by omega) c36
      have e9 : i = (wd q (p + 5)) := by omega
      rw [e9] at hL
      refine e_wk [some (.ref d), some (.ref a), some (.int (nI q.length)), some (.int (nI p)), some (.int (nI k)), some (.int (nI (wd q (p + 5)))), none] ⟨rfl, rfl, rfl, rfl, rfl, rfl, trivial⟩ ?_
      exact kk h hL
    · have k36 := j_ge_f (a := i) (b := (wd q (p + 5))) (by omega) (by omega) c36
      refine e_aload_n 40 dX15_writes_39 rfl rfl ?_
      refine e_get 43 dX15_writes_40 rfl fl_X15_218_10 (stars_at _ 2 hL rfl) rfl ?_
      refine e_iload 45 dX15_writes_43 rfl rfl ?_
      refine v_aaldP 46 (grP_V _ 1 hL rfl hR) dX15_writes_45 rfl (by omega) (by omega) ?_
      refine e_aload_n 47 dX15_writes_46 rfl rfl ?_
      refine e_iload_n 48 dX15_writes_47 rfl rfl ?_
      refine e_iconst 49 (v := (nI 3)) dX15_writes_48 rfl (by decide) ?_
      refine e_iadd 50 (v := (nI (p + 3))) dX15_writes_49 rfl (nI_add p 3) ?_
      refine u_callS 53 dX15_writes_50 rfl cs_X15_85 (u_X15_two (iar_V _ 6 hL rfl) (k := (p + 3)) (by omega) (by omega)) rfl rfl (Nat.le_of_ble_eq_true rfl) (by decide) ⟨by omega, by omega⟩ ?_
      have hw50 := wd_lt (k := (p + 3)) hq
      refine e_iload 55 dX15_writes_53 rfl rfl ?_
      refine e_iadd 56 (v := (nI ((wd q (p + 3)) + i))) dX15_writes_55 rfl (nI_add (wd q (p + 3)) i) ?_
      refine e_aload_n 57 dX15_writes_56 rfl rfl ?_
      refine e_iload_n 58 dX15_writes_57 rfl rfl ?_
      refine e_bipush 60 (v := (nI 7)) dX15_writes_58 rfl (by decide) ?_
      refine e_iadd 61 (v := (nI (p + 7))) dX15_writes_60 rfl (nI_add p 7) ?_
      refine e_iconst 62 (v := (nI 2)) dX15_writes_61 rfl (by decide) ?_
      refine e_iload 64 dX15_writes_62 rfl rfl ?_
      refine e_imul 65 (v := (nI (2 * i))) dX15_writes_64 rfl (pk_mul 2 i) ?_
      refine e_iadd 66 (v := (nI ((p + 7) + (2 * i)))) dX15_writes_65 rfl (nI_add (p + 7) (2 * i)) ?_
      refine u_callS 69 dX15_writes_66 rfl cs_X15_85 (u_X15_two (iar_V _ 6 hL rfl) (k := ((p + 7) + (2 * i))) (by omega) (by omega)) rfl rfl (Nat.le_of_ble_eq_true rfl) (by decide) ⟨by omega, by omega⟩ ?_
      have hw66 := wd_lt (k := ((p + 7) + (2 * i))) hq
      refine p_iastR 70 hL 0 (r := (wvF q (wd q (p + 3)) (p + 7) (rwM M k) i)) (r' := (wvF q (wd q (p + 3)) (p + 7) (rwM M k) (i + 1))) (k := ((wd q (p + 3)) + i)) (v := (wd q ((p + 7) + (2 * i)))) (L' := [iar b19 120 (wvF q (wd q (p + 3)) (p + 7) (rwM M k) (i + 1)), R19, pt d (.inr (10, rdF A (flD s M))), iar (A 17) 4 (kys M), iar (A 18) 4 (szs M), rRf A (flD s M), iar a qn q]) rfl dX15_writes_69 rfl (by omega) (by omega) (iw_set (by rw [wvF_len]; omega) (by rw [wvF_len]; omega)) rfl (fun h hL => ?_)
      refine e_iinc 73 (v := (nI (i + 1))) (ls' := [some (.ref d), some (.ref a), some (.int (nI q.length)), some (.int (nI p)), some (.int (nI k)), some (.int (nI (wd q (p + 5)))), some (.int (nI (i + 1)))]) dX15_writes_70 rfl rfl (nI_add i 1) (by decide) rfl ?_
      refine e_goto 32 dX15_writes_73 rfl ?_
      refine e_wk [some (.ref d), some (.ref a), some (.int (nI q.length)), some (.int (nI p)), some (.int (nI k)), some (.int (nI (wd q (p + 5)))), some (.int (nI (i + 1)))] ⟨rfl, rfl, rfl, rfl, rfl, rfl, rfl, trivial⟩ ?_
      exact ih (i + 1) h (by omega) (by omega) hL
theorem wfF_out {q : List Nat} {i : Nat} {M : List (Nat × List Nat)} (h : ¬ i < q.length) : ∀ t, wfF q t i M = M
  | 0 => rfl
  | t + 1 => by rw [wfF, if_neg h]
theorem flD_0 {s : DS} : flD s (dS s 0) = s := by
  unfold flD
  rw [upM_self]
set_option maxRecDepth 20000 in
set_option maxHeartbeats 2000000 in
theorem l_X15_writes {d a qn : Nat} {s : DS} {q : List Nat} (he : okE s) (hqn : qn < 100000) (hq : ∀ x ∈ q, x < 256) (hl9 : q.length ≤ 253) : ∀ (n : Nat) (c t p : Nat) (M : List (Nat × List Nat)) (h : eH), 37 - c < n → c + t = 36 → 2 + 7 * c ≤ p → wpE q t p = q.length → ffF (dS s 0) q 2 t p = 0 → kys M = kys (dS s 0) → szs M = szs (dS s 0) → shO 4 120 65536 M → wfF q t p M = wfF q 36 2 (dS s 0) → stars [rdv d (flD s M), iar a qn q] h → EE mX15_writes 1 22 0 0 (fun x9 h' => ∃ K, (x9 = none ∧ K = [rdv d (flD s (wfF q 36 2 (dS s 0))), iar a qn q]) ∧ stars K h') 2 [some (.ref d), some (.ref a), some (.int (nI q.length)), some (.int (nI p)), none, none, none] [] h 0 0 := by
  intro n
  induction n with
  | zero => intro c t p M h hlt hct hcp hwp hff hk1 hk2 hM hwf hL; exact absurd hlt (by omega)
  | succ n ih =>
    intro c t p M h hlt hct hcp hwp hff hk1 hk2 hM hwf hL
    have hqle := (iar_V _ 1 hL rfl).le
    have hwj := wd_lt (k := p + 5) hq
    have hwg := wpE_ge (q := q) t p
    refine e_iload_n 3 dX15_writes_2 rfl rfl ?_
    refine e_iload_n 4 dX15_writes_3 rfl rfl ?_
    refine e_icmp_ge 89 7 dX15_writes_4 rfl rfl (fun c4 => ?_) (fun c4 => ?_)
    · have k4 := j_ge_t (a := p) (b := q.length) (by omega) (by omega) c4
      exact e_vret dX15_writes_89 rfl (by omega) (by omega) (⟨_, ⟨rfl, rfl⟩, by rw [← hwf, wfF_out (by omega)]; exact hL⟩)
    · have k4 := j_ge_f (a := p) (b := q.length) (by omega) (by omega) c4
      obtain ⟨t, rfl⟩ : ∃ t9, t = t9 + 1 := ⟨t - 1, by omega⟩
      have wi := wpE_in hwp (by omega)
      have ff := ff_in hff (by omega)
      obtain ⟨k, hxk, hfk⟩ := fp_s (by rw [fp_cg hk1 hk2]; exact ff.1 : fpF M q p = true)
      have hk9 := ixM_lt hxk
      refine e_aload_n 8 dX15_writes_7 rfl rfl ?_
      refine e_aload_n 9 dX15_writes_8 rfl rfl ?_
      refine e_iload_n 10 dX15_writes_9 rfl rfl ?_
      refine e_iconst 11 (v := (nI 1)) dX15_writes_10 rfl (by decide) ?_
      refine e_iadd 12 (v := (nI (p + 1))) dX15_writes_11 rfl (nI_add p 1) ?_
      refine u_callS 15 dX15_writes_12 rfl cs_X15_85 (u_X15_two (iar_V _ 1 hL rfl) (k := (p + 1)) (by omega) (by omega)) rfl rfl (Nat.le_of_ble_eq_true rfl) (by decide) ⟨by omega, by omega⟩ ?_
      have hw12 := wd_lt (k := (p + 1)) hq
      have hv15 := rdv_V _ 0 hL rfl
      obtain ⟨A15, o15, -⟩ := id hv15
      refine u_callV 18 dX15_writes_15 rfl cv_X15_141 o15 (u_X12_fileOf hv15 (okE_fl he hM)) rfl rfl (Nat.le_of_ble_eq_true rfl) (by decide) ⟨by omega, by omega⟩ ?_
      rw [show ixM (dS (flD s M) 0) (nI (wd q (p + 1))) = some k from hxk]
      refine e_istore 20 (ls' := [some (.ref d), some (.ref a), some (.int (nI q.length)), some (.int (nI p)), some (.int (nI k)), none, none]) dX15_writes_18 rfl (by decide) rfl ?_
      refine e_aload_n 21 dX15_writes_20 rfl rfl ?_
      refine e_iload_n 22 dX15_writes_21 rfl rfl ?_
      refine e_iconst 23 (v := (nI 5)) dX15_writes_22 rfl (by decide) ?_
      refine e_iadd 24 (v := (nI (p + 5))) dX15_writes_23 rfl (nI_add p 5) ?_
      refine u_callS 27 dX15_writes_24 rfl cs_X15_85 (u_X15_two (iar_V _ 1 hL rfl) (k := (p + 5)) (by omega) (by omega)) rfl rfl (Nat.le_of_ble_eq_true rfl) (by decide) ⟨by omega, by omega⟩ ?_
      have hw24 := wd_lt (k := (p + 5)) hq
      refine e_istore 29 (ls' := [some (.ref d), some (.ref a), some (.int (nI q.length)), some (.int (nI p)), some (.int (nI k)), some (.int (nI (wd q (p + 5)))), none]) dX15_writes_27 rfl (by decide) rfl ?_
      refine e_iconst 30 (v := (nI 0)) dX15_writes_29 rfl (by decide) ?_
      refine e_istore 32 (ls' := [some (.ref d), some (.ref a), some (.int (nI q.length)), some (.int (nI p)), some (.int (nI k)), some (.int (nI (wd q (p + 5)))), some (.int (nI 0))]) dX15_writes_30 rfl (by decide) rfl ?_
      obtain ⟨A, hL⟩ := rdv_of hL
      have hL : stars [pt d (.inr (10, rdF A (flD s M))), iar (A 17) 4 (kys M), iar (A 18) 4 (szs M), grd (A 19) 4 120 (rwM M), rRf A (flD s M), iar a qn q] h := hL
      have hL : stars [grd (A 19) 4 120 (rwM M), pt d (.inr (10, rdF A (flD s M))), iar (A 17) 4 (kys M), iar (A 18) 4 (szs M), rRf A (flD s M), iar a qn q] h := stars_ixn hL 6 rfl [3, 0, 1, 2, 4, 5] (by decide) rfl
      obtain ⟨b19, R19, hL, hR19, hC19⟩ := grd_at (i := k) (by have := shO_le hM; omega) hL
      have hL : stars [iar b19 120 ((rwM M) k), R19, pt d (.inr (10, rdF A (flD s M))), iar (A 17) 4 (kys M), iar (A 18) 4 (szs M), rRf A (flD s M), iar a qn q] h := hL
      refine l_X15_writes1 he hqn hq hl9 hM wi.1 hk9 hfk hR19 (fun h hL => ?_) _ 0 h (Nat.lt_succ_self _) (Nat.zero_le _) hL
      have hL : stars [grd (A 19) 4 120 (upL (rwM M) k (wvF q (wd q (p + 3)) (p + 7) (rwM M k) (wd q (p + 5)))), pt d (.inr (10, rdF A (flD s M))), iar (A 17) 4 (kys M), iar (A 18) 4 (szs M), rRf A (flD s M), iar a qn q] h := hC19 _ _ _ hL
      have hL : stars [pt d (.inr (10, rdF A (flD s M))), iar (A 17) 4 (kys M), iar (A 18) 4 (szs M), grd (A 19) 4 120 (upL (rwM M) k (wvF q (wd q (p + 3)) (p + 7) (rwM M k) (wd q (p + 5)))), rRf A (flD s M), iar a qn q] h := stars_ixn hL 6 rfl [1, 2, 3, 0, 4, 5] (by decide) rfl
      have hL := cf_close hk9 (by rw [wvF_len]) hL
      rw [← wfS_s hxk] at hL
      have hL : stars [rdv d (flD s (wfS q M p)), iar a qn q] h := hL
      refine e_iload_n 77 dX15_writes_76 rfl rfl ?_
      refine e_bipush 79 (v := (nI 7)) dX15_writes_77 rfl (by decide) ?_
      refine e_iconst 80 (v := (nI 2)) dX15_writes_79 rfl (by decide) ?_
      refine e_iload 82 dX15_writes_80 rfl rfl ?_
      refine e_imul 83 (v := (nI (2 * (wd q (p + 5))))) dX15_writes_82 rfl (pk_mul 2 (wd q (p + 5))) ?_
      refine e_iadd 84 (v := (nI (7 + (2 * (wd q (p + 5)))))) dX15_writes_83 rfl (nI_add 7 (2 * (wd q (p + 5)))) ?_
      refine e_iadd 85 (v := (nI (p + (7 + (2 * (wd q (p + 5))))))) dX15_writes_84 rfl (nI_add p (7 + (2 * (wd q (p + 5))))) ?_
      refine e_istore_n 86 (ls' := [some (.ref d), some (.ref a), some (.int (nI q.length)), some (.int (nI (p + (7 + (2 * (wd q (p + 5))))))), some (.int (nI k)), some (.int (nI (wd q (p + 5)))), none]) dX15_writes_85 rfl (by decide) rfl ?_
      refine e_goto 2 dX15_writes_86 rfl ?_
      refine e_wk [some (.ref d), some (.ref a), some (.int (nI q.length)), some (.int (nI (p + (7 + 2 * wd q (p + 5))))), none, none, none] ⟨rfl, rfl, rfl, rfl, trivial⟩ ?_
      have sk := wfS_k (M := M) (q := q) (i := p)
      exact ih (c + 1) t (p + (7 + 2 * wd q (p + 5))) (wfS q M p) h (by omega) (by omega) (by omega) (by rw [← Nat.add_assoc]; exact wi.2) (by exact ff.2) (sk.1.trans hk1) (sk.2.trans hk2) (wvF_shO hM) (by rw [← hwf, wfF, if_pos (by omega), Nat.add_assoc]) hL
set_option maxRecDepth 20000 in
set_option maxHeartbeats 2000000 in
theorem k_X15_writes {d a qn : Nat} {s : DS} {q : List Nat} (he : okE s) (hqn : qn < 100000) (hq : ∀ x ∈ q, x < 256) (hl9 : q.length ≤ 253) (hwp : wpE q 36 2 = q.length) (hff : ffF (dS s 0) q 2 36 2 = 0) : CA mX15_writes [.ref d, .ref a, .int (nI q.length)] [rdv d s, iar a qn q] (fun x9 K => x9 = none ∧ K = [rdv d (flD s (wfF q 36 2 (dS s 0))), iar a qn q]) 1 22 0 0 := by
  refine CA.mk 4 (ls := [some (.ref d), some (.ref a), some (.int (nI q.length)), none, none, none, none]) rfl rfl (Nat.le_of_ble_eq_true rfl) rfl (fun h hL => ?_)
  refine e_iconst 1 (v := (nI 2)) dX15_writes_0 rfl (by decide) ?_
  refine e_istore_n 2 (ls' := [some (.ref d), some (.ref a), some (.int (nI q.length)), some (.int (nI 2)), none, none, none]) dX15_writes_1 rfl (by decide) rfl ?_
  exact l_X15_writes he hqn hq hl9 _ 0 36 2 (dS s 0) h (Nat.lt_succ_self _) rfl (by decide) hwp hff rfl rfl (okE_sh he).1 rfl (by rw [flD_0]; exact hL)
