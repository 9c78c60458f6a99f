/-! the reference: tests (function 8) -/
def dfD (s : DS) (b : Bool) : DS := (s.1, s.2.1, s.2.2.1, s.2.2.2.1, s.2.2.2.2.1, s.2.2.2.2.2.1, upB s.2.2.2.2.2.2 0 b)
def zcD (s : DS) (ct : Nat → Nat) : DS := (s.1, s.2.1, s.2.2.1, ct, s.2.2.2.2)
def zeD (s : DS) : DS := (s.1, s.2.1, s.2.2.1, s.2.2.2.1, upL s.2.2.2.2.1 5 [], s.2.2.2.2.2)
def dnS (s : DS) (q : List Nat) : DS := (s.1, s.2.1, s.2.2.1, dnC s.2.2.2.1 q, upL s.2.2.2.2.1 5 (dnL (s.2.2.2.2.1 5) q), s.2.2.2.2.2.1, upB s.2.2.2.2.2.2 0 (dnD (s.2.2.2.2.2.2 0) q))
theorem upL_up {f : Nat → List Nat} {k : Nat} {a b : List Nat} : upL (upL f k a) k b = upL f k b := by
  funext j
  unfold upL
  split <;> rfl
theorem upB_self {f : Nat → Bool} {k : Nat} : upB f k (f k) = f := by
  funext j
  unfold upB
  split
  · rename_i e; rw [e]
  · rfl
theorem dn_4 {s : DS} {q : List Nat} (h : wd q 1 = 4) : dnS s q = evD (dfD s true) 4 := by
  simp only [dnS, dnC, dnL, dnD, h, evD, dfD]
  rfl
theorem dn_1 {s : DS} {q : List Nat} (h : wd q 1 = 1) (h3 : wd q 3 ≠ 65280) : dnS s q = dfD (evD (zcD s (fun _ => 0)) 0) false := by
  simp only [dnS, dnC, dnL, dnD, h, evD, dfD, zcD, if_neg h3]
  rfl
theorem dn_1z {s : DS} {q : List Nat} (h : wd q 1 = 1) (h3 : wd q 3 = 65280) : dnS s q = dfD (evD (zeD (zcD s (fun _ => 0))) 0) false := by
  simp only [dnS, dnC, dnL, dnD, h, evD, dfD, zcD, zeD, if_pos h3, upL_up, upL_s]
  rfl
theorem dn_10 {s : DS} {q : List Nat} (h : wd q 1 = 10) : dnS s q = zcD s (fun _ => 0) := by
  simp only [dnS, dnC, dnL, dnD, h, zcD]
  simp [upL_self, upB_self]
theorem dn_20 {s : DS} {q : List Nat} (h : wd q 1 = 20) : dnS s q = zcD s (upN (dC s) 7 0) := by
  simp only [dnS, dnC, dnL, dnD, h, zcD]
  simp [upL_self, upB_self]
theorem dn_n {s : DS} {q : List Nat} (h : wd q 1 ≠ 1) (h4 : wd q 1 ≠ 4) (h10 : wd q 1 ≠ 10) (h20 : wd q 1 ≠ 20) : dnS s q = s := by
  simp only [dnS, dnC, dnL, dnD, if_neg h, if_neg h4, if_neg h20, h, h10, or_self, if_false, upL_self, upB_self]
theorem q3 {q : List Nat} (hq : ∀ x ∈ q, x < 256) (hl : 3 ≤ q.length) : q.take 3 = [q.getD 0 0] ++ w2 (wd q 1) := by
  match q, hl with
  | a :: b :: c :: l, _ =>
    have h1 : b < 256 := hq b (by simp)
    have h2 : c < 256 := hq c (by simp)
    simp only [List.take_succ_cons, List.take_zero, wd, w2, List.length_cons, List.getD_cons_zero, List.getD_cons_succ]
    rw [if_pos (by omega)]
    simp only [List.cons_append, List.nil_append, List.cons.injEq, and_true, true_and]
    omega
theorem q5 {q : List Nat} (hq : ∀ x ∈ q, x < 256) (hl : q.length = 5) : q = [q.getD 0 0] ++ w2 (wd q 1) ++ w2 (wd q 3) := by
  match q, hl with
  | [a, b, c, d, e], _ =>
    have h1 : b < 256 := hq b (by simp)
    have h2 : c < 256 := hq c (by simp)
    have h3 : d < 256 := hq d (by simp)
    have h4 : e < 256 := hq e (by simp)
    simp only [wd, w2, List.length_cons, List.length_nil, List.getD_cons_zero, List.getD_cons_succ]
    rw [if_pos (by omega), if_pos (by omega)]
    simp only [List.cons_append, List.nil_append, List.cons.injEq, and_true, true_and]
    omega
def zct (i : Nat) (ct : Nat → Nat) : Nat → Nat := fun j => if j < i then 0 else ct j
theorem zct_s {i : Nat} {ct : Nat → Nat} : upN (zct i ct) i 0 = zct (i + 1) ct := by
  funext j
  unfold upN zct
  by_cases e : j = i
  · rw [if_pos e, if_pos (by omega)]
  · rw [if_neg e]
    by_cases e2 : j < i
    · rw [if_pos e2, if_pos (by omega)]
    · rw [if_neg e2, if_neg (by omega)]
theorem zct_0 {ct : Nat → Nat} : zct 0 ct = ct := rfl
theorem zct_9 {ct : Nat → Nat} : tbl 9 (zct 9 ct) = tbl 9 (fun _ => 0) := rfl
set_option maxRecDepth 20000 in
set_option maxHeartbeats 2000000 in
theorem l_X15_tests {m d a qn : Nat} {F w : Nat → Nat} {bg : Bool} {s : DS} {q : List Nat} (he : okE s) (hok : okD s) (hqn : qn < 100000) (hq : ∀ x ∈ q, x < 256) (h0 : q.getD 0 0 = 8) (hl : 3 ≤ q.length) (hl9 : q.length ≤ 253) {A : Nat → Nat} {Q : Option Value → eH → Prop} (kk : ∀ h : eH, stars [rdv d (zcD s (fun _ => 0)), ansP m F w bg [], iar a qn q] h → EE mX15_tests 2 44 0 0 Q 61 [some (.ref m), some (.ref d), some (.ref a), some (.int (nI q.length)), some (.int (nI (wd q 1))), none] [] h 0 0) : ∀ (n : Nat) (i : Nat) (h : eH), 9 - i < n → i ≤ 9 → stars [pt d (.inr (10, rdF A s)), iar (A 30) 9 (tbl 9 (zct i (dC s))), rRc A s, ansP m F w bg ([]), iar a qn q] h → EE mX15_tests 2 44 0 0 (Q) 40 [some (.ref m), some (.ref d), some (.ref a), some (.int (nI q.length)), some (.int (nI (wd q 1))), some (.int (nI i))] [] h 0 0 := by
  intro n
  induction n with
  | zero => intro i h hlt hle hL; exact absurd hlt (by omega)
  | succ n ih =>
    intro i h hlt hle hL
    refine e_iload 42 dX15_tests_40 rfl rfl ?_
    refine e_bipush 44 (v := (nI 9)) dX15_tests_42 rfl (by decide) ?_
    refine e_icmp_ge 61 47 dX15_tests_44 rfl rfl (fun c44 => ?_) (fun c44 => ?_)
    · have k44 := j_ge_t (a := i) (b := 9) (by omega) (by omega) c44
      have i9 : i = 9 := by omega
      subst i9
      rw [zct_9] at hL
      have hL : stars [rdv d (zcD s (fun _ => 0)), ansP m F w bg [], iar a qn q] h := rdv_cc (fs' := rdF A s) rfl hL
      refine e_wk [some (.ref m), some (.ref d), some (.ref a), some (.int (nI q.length)), some (.int (nI (wd q 1))), none] ⟨rfl, rfl, rfl, rfl, rfl, trivial⟩ ?_
      exact kk h hL
    · have k44 := j_ge_f (a := i) (b := 9) (by omega) (by omega) c44
      refine e_aload_n 48 dX15_tests_47 rfl rfl ?_
      refine e_get 51 dX15_tests_48 rfl fl_X15_186_10 (stars_at _ 0 hL rfl) rfl ?_
      refine e_iload 53 dX15_tests_51 rfl rfl ?_
      refine e_iconst 54 (v := (nI 0)) dX15_tests_53 rfl (by decide) ?_
      refine p_iastR 55 hL 1 (r := (tbl 9 (zct i (dC s)))) (r' := (tbl 9 (upN (zct i (dC s)) i 0))) (k := i) (v := 0) (L' := [pt d (.inr (10, rdF A s)), iar (A 30) 9 (tbl 9 (upN (zct i (dC s)) i 0)), rRc A s, ansP m F w bg ([]), iar a qn q]) rfl dX15_tests_54 rfl (by omega) (by omega) (iw_tbl (by decide) (by omega)) rfl (fun h hL => ?_)
      refine e_iinc 58 (v := (nI (i + 1))) (ls' := [some (.ref m), some (.ref d), some (.ref a), some (.int (nI q.length)), some (.int (nI (wd q 1))), some (.int (nI (i + 1)))]) dX15_tests_55 rfl rfl (nI_add i 1) (by decide) rfl ?_
      refine e_goto 40 dX15_tests_58 rfl ?_
      rw [zct_s] at hL
      have hL : stars [pt d (.inr (10, rdF A s)), iar (A 30) 9 (tbl 9 (zct (i + 1) (dC s))), rRc A s, ansP m F w bg ([]), iar a qn q] h := hL
      refine e_wk [some (.ref m), some (.ref d), some (.ref a), some (.int (nI q.length)), some (.int (nI (wd q 1))), some (.int (nI (i + 1)))] ⟨rfl, rfl, rfl, rfl, rfl, rfl, trivial⟩ ?_
      exact ih (i + 1) h (by omega) (by omega) hL
theorem okD_C {s : DS} (h : okD s) (i : Nat) : dC s i < 65536 := h.2.2.1 i
set_option maxRecDepth 20000 in
set_option maxHeartbeats 2000000 in
theorem k_X15_tests {m d a qn : Nat} {F w : Nat → Nat} {bg : Bool} {s : DS} {q : List Nat} (he : okE s) (hok : okD s) (hqn : qn < 100000) (hq : ∀ x ∈ q, x < 256) (h0 : q.getD 0 0 = 8) (hl : 3 ≤ q.length) (hl9 : q.length ≤ 253) (hk5 : wd q 1 = 0 ∨ q.length = 5) (hk2 : wd q 1 = 2 → wd q 3 = 0) : CA mX15_tests [.ref m, .ref d, .ref a, .int (nI q.length)] [ansP m F w bg ([]), rdv d s, iar a qn q] (fun x9 K => x9 = none ∧ K = [ansP m F w bg (dnA (dC s) q), rdv d (dnS s q), iar a qn q]) 2 44 0 0 := by
  refine CA.mk 2 (ls := [some (.ref m), some (.ref d), some (.ref a), some (.int (nI q.length)), none, none]) rfl rfl (Nat.le_of_ble_eq_true rfl) rfl (fun h hL => ?_)
  have hqle := (iar_V _ 2 hL rfl).le
  refine e_aload_n 1 dX15_tests_0 rfl rfl ?_
  refine e_iconst 2 (v := (nI 1)) dX15_tests_1 rfl (by decide) ?_
  refine u_callS 5 dX15_tests_2 rfl cs_X15_85 (u_X15_two (iar_V _ 2 hL rfl) (k := 1) (by omega) (by omega)) rfl rfl (Nat.le_of_ble_eq_true rfl) (by decide) ⟨by omega, by omega⟩ ?_
  have hw2 := wd_lt (k := 1) hq
  refine e_istore 7 (ls' := [some (.ref m), some (.ref d), some (.ref a), some (.int (nI q.length)), some (.int (nI (wd q 1))), none]) dX15_tests_5 rfl (by decide) rfl ?_
  refine e_iload 9 dX15_tests_7 rfl rfl ?_
  refine e_iconst 10 (v := (nI 4)) dX15_tests_9 rfl (by decide) ?_
  refine e_icmp_ne 24 13 dX15_tests_10 rfl rfl (fun c10 => ?_) (fun c10 => ?_)
  · have k10 := j_ne_t (a := (wd q 1)) (b := 4) (by omega) (by omega) c10
    refine e_iload 26 dX15_tests_24 rfl rfl ?_
    refine e_iconst 27 (v := (nI 1)) dX15_tests_26 rfl (by decide) ?_
    refine e_icmp_eq 37 30 dX15_tests_27 rfl rfl (fun c27 => ?_) (fun c27 => ?_)
    · have k27 := j_eq_t (a := (wd q 1)) (b := 1) (by omega) (by omega) c27
      refine e_iconst 38 (v := (nI 0)) dX15_tests_37 rfl (by decide) ?_
      refine e_istore 40 (ls' := [some (.ref m), some (.ref d), some (.ref a), some (.int (nI q.length)), some (.int (nI (wd q 1))), some (.int (nI 0))]) dX15_tests_38 rfl (by decide) rfl ?_
      have hL : stars [rdv d s, ansP m F w bg ([]), iar a qn q] h := stars_ixn hL 3 rfl [1, 0, 2] (by decide) rfl
      obtain ⟨A, hL⟩ := rdv_oc hL
      have hL : stars [pt d (.inr (10, rdF A s)), iar (A 30) 9 (tbl 9 (dC s)), rRc A s, ansP m F w bg ([]), iar a qn q] h := hL
      refine l_X15_tests he hok hqn hq h0 hl hl9 (fun h hL => ?_) _ 0 h (Nat.lt_succ_self _) (Nat.zero_le _) hL
      refine e_iload 63 dX15_tests_61 rfl rfl ?_
      refine e_iconst 64 (v := (nI 1)) dX15_tests_63 rfl (by decide) ?_
      refine e_icmp_ne 92 67 dX15_tests_64 rfl rfl (fun c64 => absurd c64 (fun z => z (congrArg nI (show wd q 1 = 1 by omega)))) (fun c64 => ?_)
      refine e_aload_n 68 dX15_tests_67 rfl rfl ?_
      refine e_iconst 69 (v := (nI 3)) dX15_tests_68 rfl (by decide) ?_
      refine u_callS 72 dX15_tests_69 rfl cs_X15_85 (u_X15_two (iar_V _ 2 hL rfl) (k := 3) (by omega) (by omega)) rfl rfl (Nat.le_of_ble_eq_true rfl) (by decide) ⟨by omega, by omega⟩ ?_
      have hw69 := wd_lt (k := 3) hq
      refine e_ldc 74 (v := (nI 65280)) dX15_tests_72 rfl cn_X15_110 ?_
      refine e_icmp_ne 82 77 dX15_tests_74 rfl rfl (fun c74 => ?_) (fun c74 => ?_)
      · have k74 := j_ne_t (a := (wd q 3)) (b := 65280) (by omega) (by omega) c74
        refine e_aload_n 83 dX15_tests_82 rfl rfl ?_
        refine e_iconst 84 (v := (nI 0)) dX15_tests_83 rfl (by decide) ?_
        refine p_callV 87 hL [0, 1, 2] 3 rfl (by decide) (L1 := [rdv d (zcD s (fun _ => 0))]) (L2 := [ansP m F w bg ([]), iar a qn q]) rfl rdv_O 0 rfl dX15_tests_84 rfl cv_X15_215 (k_X12_tells (s := (zcD s (fun _ => 0))) (e := 0) (by exact (okE_ln he).2.1)) rfl rfl (Nat.le_of_ble_eq_true rfl) ⟨by decide, by omega, by omega⟩ (fun r1 L1 h q hL => ?_)
        obtain ⟨rfl, rfl⟩ := q
        have hL : stars [rdv d (evD (zcD s (fun _ => 0)) 0), ansP m F w bg ([]), iar a qn q] h := hL
        obtain ⟨A, hL⟩ := rdv_on hL
        have hL : stars [pt d (.inr (10, rdF A (evD (zcD s (fun _ => 0)) 0))), rRn A (evD (zcD s (fun _ => 0)) 0), ansP m F w bg ([]), iar a qn q] h := hL
        refine e_aload_n 88 dX15_tests_87 rfl rfl ?_
        refine e_iconst 89 (v := (nI 0)) dX15_tests_88 rfl (by decide) ?_
        refine p_put 92 hL 0 (fs' := (rdF A (evD (zcD s (fun _ => 0)) 0)).set 33 (.int (nI 0))) (L' := [pt d (.inr (10, (rdF A (evD (zcD s (fun _ => 0)) 0)).set 33 (.int (nI 0)))), rRn A (evD (zcD s (fun _ => 0)) 0), ansP m F w bg ([]), iar a qn q]) rfl rfl dX15_tests_89 rfl fp_X15_211_10 (Or.inl rfl) (Nat.le_of_ble_eq_true rfl) (by decide) rfl rfl (fun h hL => ?_)
        have hL : stars [rdv d (dfD (evD (zcD s (fun _ => 0)) 0) false), ansP m F w bg ([]), iar a qn q] h := rdv_cn (s := (evD (zcD s (fun _ => 0)) 0)) (A := A) (fs' := (rdF A (evD (zcD s (fun _ => 0)) 0)).set 33 (.int (nI 0))) (v := (evD (zcD s (fun _ => 0)) 0).1) (B := upB (dB (evD (zcD s (fun _ => 0)) 0)) 0 false) rfl rfl hL
        refine e_iload 94 dX15_tests_92 rfl rfl ?_
        refine e_bipush 96 (v := (nI 20)) dX15_tests_94 rfl (by decide) ?_
        refine e_icmp_ne 107 99 dX15_tests_96 rfl rfl (fun c96 => ?_) (fun c96 => absurd c96 (fun z => absurd (j_eq_t (by omega) (by omega) z) (by omega)))
        refine e_iload 109 dX15_tests_107 rfl rfl ?_
        refine e_iconst 110 (v := (nI 2)) dX15_tests_109 rfl (by decide) ?_
        refine e_icmp_eq 125 113 dX15_tests_110 rfl rfl (fun c110 => absurd c110 (fun z => absurd (j_eq_t (by omega) (by omega) z) (by omega))) (fun c110 => ?_)
        refine e_iload 115 dX15_tests_113 rfl rfl ?_
        refine e_bipush 117 (v := (nI 11)) dX15_tests_115 rfl (by decide) ?_
        refine e_bipush 119 (v := (nI 18)) dX15_tests_117 rfl (by decide) ?_
        refine u_callS 122 dX15_tests_119 rfl cs_X15_81 (u_inN (by omega) (by omega) (by omega)) rfl rfl (Nat.le_of_ble_eq_true rfl) (by decide) ⟨by omega, by omega⟩ ?_
        refine e_if_eq 164 125 dX15_tests_122 rfl rfl (fun c122 => ?_) (fun c122 => absurd c122 (fun z => z (by rw [inN_f (by omega)]; rfl)))
        refine e_aload_n 165 dX15_tests_164 rfl rfl ?_
        refine e_aload_n 166 dX15_tests_165 rfl rfl ?_
        refine e_iload_n 167 dX15_tests_166 rfl rfl ?_
        refine p_callV 170 hL [1, 2, 0] 3 rfl (by decide) (L1 := [ansP m F w bg ([]), iar a qn q]) (L2 := [rdv d (dfD (evD (zcD s (fun _ => 0)) 0) false)]) rfl ans_O 1 rfl dX15_tests_167 rfl cv_X15_168 (k_X15_same (by first | omega | (simp only [List.length_append, List.length_cons, List.length_nil, w2_len, List.length_take, rbR_len, rwR_len, List.length_reverse, tvR_len] <;> omega)) (by omega) hq (by omega)) rfl rfl (Nat.le_of_ble_eq_true rfl) ⟨by decide, by omega, by omega⟩ (fun r1 L1 h q hL => ?_)
        obtain ⟨rfl, rfl⟩ := q
        have hL : stars [ansP m F w bg ([] ++ q.take q.length), iar a qn q, rdv d (dfD (evD (zcD s (fun _ => 0)) 0) false)] h := hL
        have hL : stars [rdv d (dfD (evD (zcD s (fun _ => 0)) 0) false), ansP m F w bg ([] ++ q.take q.length), iar a qn q] h := stars_ixn hL 3 rfl [2, 0, 1] (by decide) rfl
        exact e_vret dX15_tests_170 rfl (by omega) (by omega) (⟨_, ⟨rfl, rfl⟩, by rw [dnA, if_neg (by omega), if_neg (by omega), dn_1 (by omega) (by omega)]; (have hL := (stars_ixn hL 3 rfl [1, 0, 2] (by decide) rfl)); rw [List.nil_append, List.take_of_length_le (Nat.le_refl _)] at hL; exact hL⟩)
      · have k74 := j_ne_f (a := (wd q 3)) (b := 65280) (by omega) (by omega) c74
        obtain ⟨A, hL⟩ := rdv_oe hL
        have hL : stars [pt d (.inr (10, rdF A (zcD s (fun _ => 0)))), iar (A 32) 64 ((dL (zcD s (fun _ => 0)) 5).reverse), rRe A (zcD s (fun _ => 0)), ansP m F w bg ([]), iar a qn q] h := hL
        refine e_aload_n 78 dX15_tests_77 rfl rfl ?_
        refine e_iconst 79 (v := (nI 0)) dX15_tests_78 rfl (by decide) ?_
        refine p_put 82 hL 0 (fs' := (rdF A (zcD s (fun _ => 0))).set 31 (.int (nI 0))) (L' := [pt d (.inr (10, (rdF A (zcD s (fun _ => 0))).set 31 (.int (nI 0)))), iar (A 32) 64 ((dL (zcD s (fun _ => 0)) 5).reverse), rRe A (zcD s (fun _ => 0)), ansP m F w bg ([]), iar a qn q]) rfl rfl dX15_tests_79 rfl fp_X15_189_10 (Or.inl rfl) (Nat.le_of_ble_eq_true rfl) rfl rfl rfl (fun h hL => ?_)
        have hL : stars [pt d (.inr (10, (rdF A (zcD s (fun _ => 0))).set 31 (.int (nI 0)))), iar (A 32) 64 ([].reverse), rRe A (zcD s (fun _ => 0)), ansP m F w bg ([]), iar a qn q] h := iar_em 1 hL rfl rfl
        have hL : stars [rdv d (zeD (zcD s (fun _ => 0))), ansP m F w bg ([]), iar a qn q] h := rdv_ce (s := (zcD s (fun _ => 0))) (A := A) (fs' := (rdF A (zcD s (fun _ => 0))).set 31 (.int (nI 0))) (r := []) rfl hL
        refine e_aload_n 83 dX15_tests_82 rfl rfl ?_
        refine e_iconst 84 (v := (nI 0)) dX15_tests_83 rfl (by decide) ?_
        refine p_callV 87 hL [0, 1, 2] 3 rfl (by decide) (L1 := [rdv d (zeD (zcD s (fun _ => 0)))]) (L2 := [ansP m F w bg ([]), iar a qn q]) rfl rdv_O 0 rfl dX15_tests_84 rfl cv_X15_215 (k_X12_tells (s := (zeD (zcD s (fun _ => 0)))) (e := 0) (by show ([] : List Nat).length ≤ 64; decide)) rfl rfl (Nat.le_of_ble_eq_true rfl) ⟨by decide, by omega, by omega⟩ (fun r1 L1 h q hL => ?_)
        obtain ⟨rfl, rfl⟩ := q
        have hL : stars [rdv d (evD (zeD (zcD s (fun _ => 0))) 0), ansP m F w bg ([]), iar a qn q] h := hL
        obtain ⟨A, hL⟩ := rdv_on hL
        have hL : stars [pt d (.inr (10, rdF A (evD (zeD (zcD s (fun _ => 0))) 0))), rRn A (evD (zeD (zcD s (fun _ => 0))) 0), ansP m F w bg ([]), iar a qn q] h := hL
        refine e_aload_n 88 dX15_tests_87 rfl rfl ?_
        refine e_iconst 89 (v := (nI 0)) dX15_tests_88 rfl (by decide) ?_
        refine p_put 92 hL 0 (fs' := (rdF A (evD (zeD (zcD s (fun _ => 0))) 0)).set 33 (.int (nI 0))) (L' := [pt d (.inr (10, (rdF A (evD (zeD (zcD s (fun _ => 0))) 0)).set 33 (.int (nI 0)))), rRn A (evD (zeD (zcD s (fun _ => 0))) 0), ansP m F w bg ([]), iar a qn q]) rfl rfl dX15_tests_89 rfl fp_X15_211_10 (Or.inl rfl) (Nat.le_of_ble_eq_true rfl) (by decide) rfl rfl (fun h hL => ?_)
        have hL : stars [rdv d (dfD (evD (zeD (zcD s (fun _ => 0))) 0) false), ansP m F w bg ([]), iar a qn q] h := rdv_cn (s := (evD (zeD (zcD s (fun _ => 0))) 0)) (A := A) (fs' := (rdF A (evD (zeD (zcD s (fun _ => 0))) 0)).set 33 (.int (nI 0))) (v := (evD (zeD (zcD s (fun _ => 0))) 0).1) (B := upB (dB (evD (zeD (zcD s (fun _ => 0))) 0)) 0 false) rfl rfl hL
        refine e_iload 94 dX15_tests_92 rfl rfl ?_
        refine e_bipush 96 (v := (nI 20)) dX15_tests_94 rfl (by decide) ?_
        refine e_icmp_ne 107 99 dX15_tests_96 rfl rfl (fun c96 => ?_) (fun c96 => absurd c96 (fun z => absurd (j_eq_t (by omega) (by omega) z) (by omega)))
        refine e_iload 109 dX15_tests_107 rfl rfl ?_
        refine e_iconst 110 (v := (nI 2)) dX15_tests_109 rfl (by decide) ?_
        refine e_icmp_eq 125 113 dX15_tests_110 rfl rfl (fun c110 => absurd c110 (fun z => absurd (j_eq_t (by omega) (by omega) z) (by omega))) (fun c110 => ?_)
        refine e_iload 115 dX15_tests_113 rfl rfl ?_
        refine e_bipush 117 (v := (nI 11)) dX15_tests_115 rfl (by decide) ?_
        refine e_bipush 119 (v := (nI 18)) dX15_tests_117 rfl (by decide) ?_
        refine u_callS 122 dX15_tests_119 rfl cs_X15_81 (u_inN (by omega) (by omega) (by omega)) rfl rfl (Nat.le_of_ble_eq_true rfl) (by decide) ⟨by omega, by omega⟩ ?_
        refine e_if_eq 164 125 dX15_tests_122 rfl rfl (fun c122 => ?_) (fun c122 => absurd c122 (fun z => z (by rw [inN_f (by omega)]; rfl)))
        refine e_aload_n 165 dX15_tests_164 rfl rfl ?_
        refine e_aload_n 166 dX15_tests_165 rfl rfl ?_
        refine e_iload_n 167 dX15_tests_166 rfl rfl ?_
        refine p_callV 170 hL [1, 2, 0] 3 rfl (by decide) (L1 := [ansP m F w bg ([]), iar a qn q]) (L2 := [rdv d (dfD (evD (zeD (zcD s (fun _ => 0))) 0) false)]) rfl ans_O 1 rfl dX15_tests_167 rfl cv_X15_168 (k_X15_same (by first | omega | (simp only [List.length_append, List.length_cons, List.length_nil, w2_len, List.length_take, rbR_len, rwR_len, List.length_reverse, tvR_len] <;> omega)) (by omega) hq (by omega)) rfl rfl (Nat.le_of_ble_eq_true rfl) ⟨by decide, by omega, by omega⟩ (fun r1 L1 h q hL => ?_)
        obtain ⟨rfl, rfl⟩ := q
        have hL : stars [ansP m F w bg ([] ++ q.take q.length), iar a qn q, rdv d (dfD (evD (zeD (zcD s (fun _ => 0))) 0) false)] h := hL
        have hL : stars [rdv d (dfD (evD (zeD (zcD s (fun _ => 0))) 0) false), ansP m F w bg ([] ++ q.take q.length), iar a qn q] h := stars_ixn hL 3 rfl [2, 0, 1] (by decide) rfl
        exact e_vret dX15_tests_170 rfl (by omega) (by omega) (⟨_, ⟨rfl, rfl⟩, by rw [dnA, if_neg (by omega), if_neg (by omega), dn_1z (by omega) (by omega)]; (have hL := (stars_ixn hL 3 rfl [1, 0, 2] (by decide) rfl)); rw [List.nil_append, List.take_of_length_le (Nat.le_refl _)] at hL; exact hL⟩)
    · have k27 := j_eq_f (a := (wd q 1)) (b := 1) (by omega) (by omega) c27
      refine e_iload 32 dX15_tests_30 rfl rfl ?_
      refine e_bipush 34 (v := (nI 10)) dX15_tests_32 rfl (by decide) ?_
      refine e_icmp_ne 61 37 dX15_tests_34 rfl rfl (fun c34 => ?_) (fun c34 => ?_)
      · have k34 := j_ne_t (a := (wd q 1)) (b := 10) (by omega) (by omega) c34
        refine e_iload 63 dX15_tests_61 rfl rfl ?_
        refine e_iconst 64 (v := (nI 1)) dX15_tests_63 rfl (by decide) ?_
        refine e_icmp_ne 92 67 dX15_tests_64 rfl rfl (fun c64 => ?_) (fun c64 => absurd c64 (fun z => absurd (j_eq_t (by omega) (by omega) z) (by omega)))
        refine e_iload 94 dX15_tests_92 rfl rfl ?_
        refine e_bipush 96 (v := (nI 20)) dX15_tests_94 rfl (by decide) ?_
        refine e_icmp_ne 107 99 dX15_tests_96 rfl rfl (fun c96 => ?_) (fun c96 => ?_)
        · have k96 := j_ne_t (a := (wd q 1)) (b := 20) (by omega) (by omega) c96
          refine e_iload 109 dX15_tests_107 rfl rfl ?_
          refine e_iconst 110 (v := (nI 2)) dX15_tests_109 rfl (by decide) ?_
          refine e_icmp_eq 125 113 dX15_tests_110 rfl rfl (fun c110 => ?_) (fun c110 => ?_)
          · have k110 := j_eq_t (a := (wd q 1)) (b := 2) (by omega) (by omega) c110
            refine e_aload_n 126 dX15_tests_125 rfl rfl ?_
            refine e_bipush 128 (v := (nI 8)) dX15_tests_126 rfl (by decide) ?_
            refine p_callV 131 hL [0, 1, 2] 3 rfl (by decide) (L1 := [ansP m F w bg ([])]) (L2 := [rdv d s, iar a qn q]) rfl ans_O 0 rfl dX15_tests_128 rfl cv_X15_92 (k_saysB (by first | omega | (simp only [List.length_append, List.length_cons, List.length_nil, w2_len, List.length_take, rbR_len, rwR_len, List.length_reverse, tvR_len] <;> omega)) (by omega)) rfl rfl (Nat.le_of_ble_eq_true rfl) ⟨by decide, by omega, by omega⟩ (fun r1 L1 h q hL => ?_)
            obtain ⟨rfl, rfl⟩ := q
            have hL : stars [ansP m F w bg ([] ++ [8]), rdv d s, iar a qn q] h := hL
            refine e_aload_n 132 dX15_tests_131 rfl rfl ?_
            refine e_iload 134 dX15_tests_132 rfl rfl ?_
            refine p_callV 137 hL [0, 1, 2] 3 rfl (by decide) (L1 := [ansP m F w bg ([] ++ [8])]) (L2 := [rdv d s, iar a qn q]) rfl ans_O 0 rfl dX15_tests_134 rfl cv_X15_183 (k_X15_saysTwo (by first | omega | (simp only [List.length_append, List.length_cons, List.length_nil, w2_len, List.length_take, rbR_len, rwR_len, List.length_reverse, tvR_len] <;> omega)) (by omega)) rfl rfl (Nat.le_of_ble_eq_true rfl) ⟨by decide, by omega, by omega⟩ (fun r1 L1 h q hL => ?_)
            obtain ⟨rfl, rfl⟩ := q
            have hL : stars [ansP m F w bg (([] ++ [8]) ++ w2 (wd q 1)), rdv d s, iar a qn q] h := hL
            refine e_aload_n 138 dX15_tests_137 rfl rfl ?_
            refine e_iload 140 dX15_tests_138 rfl rfl ?_
            refine e_iconst 141 (v := (nI 2)) dX15_tests_140 rfl (by decide) ?_
            refine e_icmp_ne 148 144 dX15_tests_141 rfl rfl (fun c141 => absurd c141 (fun z => z (congrArg nI (show wd q 1 = 2 by omega)))) (fun c141 => ?_)
            refine e_iconst 145 (v := (nI 0)) dX15_tests_144 rfl (by decide) ?_
            refine e_goto 158 dX15_tests_145 rfl ?_
            refine p_callV 161 hL [0, 1, 2] 3 rfl (by decide) (L1 := [ansP m F w bg (([] ++ [8]) ++ w2 (wd q 1))]) (L2 := [rdv d s, iar a qn q]) rfl ans_O 0 rfl dX15_tests_158 rfl cv_X15_183 (k_X15_saysTwo (by first | omega | (simp only [List.length_append, List.length_cons, List.length_nil, w2_len, List.length_take, rbR_len, rwR_len, List.length_reverse, tvR_len] <;> omega)) (by omega)) rfl rfl (Nat.le_of_ble_eq_true rfl) ⟨by decide, by omega, by omega⟩ (fun r1 L1 h q hL => ?_)
            obtain ⟨rfl, rfl⟩ := q
            have hL : stars [ansP m F w bg ((([] ++ [8]) ++ w2 (wd q 1)) ++ w2 0), rdv d s, iar a qn q] h := hL
            refine e_goto 170 dX15_tests_161 rfl ?_
            exact e_vret dX15_tests_170 rfl (by omega) (by omega) (⟨_, ⟨rfl, rfl⟩, by rw [dnA, if_neg (by omega), if_neg (by omega), dn_n (by omega) (by omega) (by omega) (by omega)]; (have e5 := q5 hq (by omega)); rw [h0, show wd q 1 = 2 by omega, show wd q 3 = 0 by omega] at e5; (have hL := hL); rw [show ([] ++ [8] ++ w2 (wd q 1) ++ w2 0 : List Nat) = q by rw [show wd q 1 = 2 by omega]; exact e5.symm] at hL; exact hL⟩)
          · have k110 := j_eq_f (a := (wd q 1)) (b := 2) (by omega) (by omega) c110
            refine e_iload 115 dX15_tests_113 rfl rfl ?_
            refine e_bipush 117 (v := (nI 11)) dX15_tests_115 rfl (by decide) ?_
            refine e_bipush 119 (v := (nI 18)) dX15_tests_117 rfl (by decide) ?_
            refine u_callS 122 dX15_tests_119 rfl cs_X15_81 (u_inN (by omega) (by omega) (by omega)) rfl rfl (Nat.le_of_ble_eq_true rfl) (by decide) ⟨by omega, by omega⟩ ?_
            refine e_if_eq 164 125 dX15_tests_122 rfl rfl (fun c122 => ?_) (fun c122 => ?_)
            · have k122 := jin_eq_t c122
              refine e_aload_n 165 dX15_tests_164 rfl rfl ?_
              refine e_aload_n 166 dX15_tests_165 rfl rfl ?_
              refine e_iload_n 167 dX15_tests_166 rfl rfl ?_
              refine p_callV 170 hL [0, 2, 1] 3 rfl (by decide) (L1 := [ansP m F w bg ([]), iar a qn q]) (L2 := [rdv d s]) rfl ans_O 0 rfl dX15_tests_167 rfl cv_X15_168 (k_X15_same (by first | omega | (simp only [List.length_append, List.length_cons, List.length_nil, w2_len, List.length_take, rbR_len, rwR_len, List.length_reverse, tvR_len] <;> omega)) (by omega) hq (by omega)) rfl rfl (Nat.le_of_ble_eq_true rfl) ⟨by decide, by omega, by omega⟩ (fun r1 L1 h q hL => ?_)
              obtain ⟨rfl, rfl⟩ := q
              have hL : stars [ansP m F w bg ([] ++ q.take q.length), iar a qn q, rdv d s] h := hL
              have hL : stars [ansP m F w bg ([] ++ q.take q.length), rdv d s, iar a qn q] h := stars_ixn hL 3 rfl [0, 2, 1] (by decide) rfl
              exact e_vret dX15_tests_170 rfl (by omega) (by omega) (⟨_, ⟨rfl, rfl⟩, by rw [dnA, if_neg (by omega), if_neg (by omega), dn_n (by omega) (by omega) (by omega) (by omega)]; (have hL := hL); rw [List.nil_append, List.take_of_length_le (Nat.le_refl _)] at hL; exact hL⟩)
            · have k122 := jin_eq_f c122
              refine e_aload_n 126 dX15_tests_125 rfl rfl ?_
              refine e_bipush 128 (v := (nI 8)) dX15_tests_126 rfl (by decide) ?_
              refine p_callV 131 hL [0, 1, 2] 3 rfl (by decide) (L1 := [ansP m F w bg ([])]) (L2 := [rdv d s, iar a qn q]) rfl ans_O 0 rfl dX15_tests_128 rfl cv_X15_92 (k_saysB (by first | omega | (simp only [List.length_append, List.length_cons, List.length_nil, w2_len, List.length_take, rbR_len, rwR_len, List.length_reverse, tvR_len] <;> omega)) (by omega)) rfl rfl (Nat.le_of_ble_eq_true rfl) ⟨by decide, by omega, by omega⟩ (fun r1 L1 h q hL => ?_)
              obtain ⟨rfl, rfl⟩ := q
              have hL : stars [ansP m F w bg ([] ++ [8]), rdv d s, iar a qn q] h := hL
              refine e_aload_n 132 dX15_tests_131 rfl rfl ?_
              refine e_iload 134 dX15_tests_132 rfl rfl ?_
              refine p_callV 137 hL [0, 1, 2] 3 rfl (by decide) (L1 := [ansP m F w bg ([] ++ [8])]) (L2 := [rdv d s, iar a qn q]) rfl ans_O 0 rfl dX15_tests_134 rfl cv_X15_183 (k_X15_saysTwo (by first | omega | (simp only [List.length_append, List.length_cons, List.length_nil, w2_len, List.length_take, rbR_len, rwR_len, List.length_reverse, tvR_len] <;> omega)) (by omega)) rfl rfl (Nat.le_of_ble_eq_true rfl) ⟨by decide, by omega, by omega⟩ (fun r1 L1 h q hL => ?_)
              obtain ⟨rfl, rfl⟩ := q
              have hL : stars [ansP m F w bg (([] ++ [8]) ++ w2 (wd q 1)), rdv d s, iar a qn q] h := hL
              refine e_aload_n 138 dX15_tests_137 rfl rfl ?_
              refine e_iload 140 dX15_tests_138 rfl rfl ?_
              refine e_iconst 141 (v := (nI 2)) dX15_tests_140 rfl (by decide) ?_
              refine e_icmp_ne 148 144 dX15_tests_141 rfl rfl (fun c141 => ?_) (fun c141 => absurd c141 (fun z => absurd (j_eq_t (by omega) (by omega) z) (by omega)))
              have hv := rdv_V _ 1 hL rfl
              obtain ⟨A, v0, v1, v2, v3, v4, v5, v6, v7, v8, v9, v10, v11, v12, v13, v14, v15, v16, v17, v18, v19, v20, v21⟩ := hv
              have hc9 := okD_C hok (wd q 1 - 11)
              refine e_aload_n 149 dX15_tests_148 rfl rfl ?_
              refine e_get 152 dX15_tests_149 rfl fl_X15_186_10 v0 rfl ?_
              refine e_iload 154 dX15_tests_152 rfl rfl ?_
              refine e_bipush 156 (v := (nI 11)) dX15_tests_154 rfl (by decide) ?_
              refine e_isub 157 (v := (nI (wd q 1 - 11))) dX15_tests_156 rfl (pk_sub (by omega)) ?_
              refine v_iald 158 v19 (k := (wd q 1 - 11)) (x := (dC s (wd q 1 - 11))) dX15_tests_157 rfl (by simp only [tbl_len, kys_len, szs_len, List.length_reverse] <;> omega) (by omega) (tbl_at (by omega)) ?_
              refine p_callV 161 hL [0, 1, 2] 3 rfl (by decide) (L1 := [ansP m F w bg (([] ++ [8]) ++ w2 (wd q 1))]) (L2 := [rdv d s, iar a qn q]) rfl ans_O 0 rfl dX15_tests_158 rfl cv_X15_183 (k_X15_saysTwo (by first | omega | (simp only [List.length_append, List.length_cons, List.length_nil, w2_len, List.length_take, rbR_len, rwR_len, List.length_reverse, tvR_len] <;> omega)) (by omega)) rfl rfl (Nat.le_of_ble_eq_true rfl) ⟨by decide, by omega, by omega⟩ (fun r1 L1 h q hL => ?_)
              obtain ⟨rfl, rfl⟩ := q
              have hL : stars [ansP m F w bg ((([] ++ [8]) ++ w2 (wd q 1)) ++ w2 (dC s (wd q 1 - 11))), rdv d s, iar a qn q] h := hL
              refine e_goto 170 dX15_tests_161 rfl ?_
              exact e_vret dX15_tests_170 rfl (by omega) (by omega) (⟨_, ⟨rfl, rfl⟩, by rw [dnA, if_neg (by omega), if_pos (by omega), q3 hq hl, h0, List.append_assoc, dn_n (by omega) (by omega) (by omega) (by omega)]; (have hL := hL); rw [List.append_assoc, List.append_assoc] at hL; exact hL⟩)
        · have k96 := j_ne_f (a := (wd q 1)) (b := 20) (by omega) (by omega) c96
          have hL : stars [rdv d s, ansP m F w bg ([]), iar a qn q] h := stars_ixn hL 3 rfl [1, 0, 2] (by decide) rfl
          obtain ⟨A, hL⟩ := rdv_oc hL
          have hL : stars [pt d (.inr (10, rdF A s)), iar (A 30) 9 (tbl 9 (dC s)), rRc A s, ansP m F w bg ([]), iar a qn q] h := hL
          refine e_aload_n 100 dX15_tests_99 rfl rfl ?_
          refine e_get 103 dX15_tests_100 rfl fl_X15_186_10 (stars_at _ 0 hL rfl) rfl ?_
          refine e_bipush 105 (v := (nI 7)) dX15_tests_103 rfl (by decide) ?_
          refine e_iconst 106 (v := (nI 0)) dX15_tests_105 rfl (by decide) ?_
          refine p_iastR 107 hL 1 (r := (tbl 9 (dC s))) (r' := (tbl 9 (upN (dC s) 7 0))) (k := 7) (v := 0) (L' := [pt d (.inr (10, rdF A s)), iar (A 30) 9 (tbl 9 (upN (dC s) 7 0)), rRc A s, ansP m F w bg ([]), iar a qn q]) rfl dX15_tests_106 rfl (by omega) (by omega) (iw_tbl (by decide) (by decide)) rfl (fun h hL => ?_)
          have hL : stars [rdv d (zcD s (upN (dC s) 7 0)), ansP m F w bg ([]), iar a qn q] h := rdv_cc (s := s) (A := A) (fs' := rdF A s) (ct := upN (dC s) 7 0) rfl hL
          refine e_iload 109 dX15_tests_107 rfl rfl ?_
          refine e_iconst 110 (v := (nI 2)) dX15_tests_109 rfl (by decide) ?_
          refine e_icmp_eq 125 113 dX15_tests_110 rfl rfl (fun c110 => absurd c110 (fun z => absurd (j_eq_t (by omega) (by omega) z) (by omega))) (fun c110 => ?_)
          refine e_iload 115 dX15_tests_113 rfl rfl ?_
          refine e_bipush 117 (v := (nI 11)) dX15_tests_115 rfl (by decide) ?_
          refine e_bipush 119 (v := (nI 18)) dX15_tests_117 rfl (by decide) ?_
          refine u_callS 122 dX15_tests_119 rfl cs_X15_81 (u_inN (by omega) (by omega) (by omega)) rfl rfl (Nat.le_of_ble_eq_true rfl) (by decide) ⟨by omega, by omega⟩ ?_
          refine e_if_eq 164 125 dX15_tests_122 rfl rfl (fun c122 => ?_) (fun c122 => absurd c122 (fun z => z (by rw [inN_f (by omega)]; rfl)))
          refine e_aload_n 165 dX15_tests_164 rfl rfl ?_
          refine e_aload_n 166 dX15_tests_165 rfl rfl ?_
          refine e_iload_n 167 dX15_tests_166 rfl rfl ?_
          refine p_callV 170 hL [1, 2, 0] 3 rfl (by decide) (L1 := [ansP m F w bg ([]), iar a qn q]) (L2 := [rdv d (zcD s (upN (dC s) 7 0))]) rfl ans_O 1 rfl dX15_tests_167 rfl cv_X15_168 (k_X15_same (by first | omega | (simp only [List.length_append, List.length_cons, List.length_nil, w2_len, List.length_take, rbR_len, rwR_len, List.length_reverse, tvR_len] <;> omega)) (by omega) hq (by omega)) rfl rfl (Nat.le_of_ble_eq_true rfl) ⟨by decide, by omega, by omega⟩ (fun r1 L1 h q hL => ?_)
          obtain ⟨rfl, rfl⟩ := q
          have hL : stars [ansP m F w bg ([] ++ q.take q.length), iar a qn q, rdv d (zcD s (upN (dC s) 7 0))] h := hL
          have hL : stars [rdv d (zcD s (upN (dC s) 7 0)), ansP m F w bg ([] ++ q.take q.length), iar a qn q] h := stars_ixn hL 3 rfl [2, 0, 1] (by decide) rfl
          exact e_vret dX15_tests_170 rfl (by omega) (by omega) (⟨_, ⟨rfl, rfl⟩, by rw [dnA, if_neg (by omega), if_neg (by omega), dn_20 (by omega)]; (have hL := (stars_ixn hL 3 rfl [1, 0, 2] (by decide) rfl)); rw [List.nil_append, List.take_of_length_le (Nat.le_refl _)] at hL; exact hL⟩)
      · have k34 := j_ne_f (a := (wd q 1)) (b := 10) (by omega) (by omega) c34
        refine e_iconst 38 (v := (nI 0)) dX15_tests_37 rfl (by decide) ?_
        refine e_istore 40 (ls' := [some (.ref m), some (.ref d), some (.ref a), some (.int (nI q.length)), some (.int (nI (wd q 1))), some (.int (nI 0))]) dX15_tests_38 rfl (by decide) rfl ?_
        have hL : stars [rdv d s, ansP m F w bg ([]), iar a qn q] h := stars_ixn hL 3 rfl [1, 0, 2] (by decide) rfl
        obtain ⟨A, hL⟩ := rdv_oc hL
        have hL : stars [pt d (.inr (10, rdF A s)), iar (A 30) 9 (tbl 9 (dC s)), rRc A s, ansP m F w bg ([]), iar a qn q] h := hL
        refine l_X15_tests he hok hqn hq h0 hl hl9 (fun h hL => ?_) _ 0 h (Nat.lt_succ_self _) (Nat.zero_le _) hL
        refine e_iload 63 dX15_tests_61 rfl rfl ?_
        refine e_iconst 64 (v := (nI 1)) dX15_tests_63 rfl (by decide) ?_
        refine e_icmp_ne 92 67 dX15_tests_64 rfl rfl (fun c64 => ?_) (fun c64 => absurd c64 (fun z => absurd (j_eq_t (by omega) (by omega) z) (by omega)))
        refine e_iload 94 dX15_tests_92 rfl rfl ?_
        refine e_bipush 96 (v := (nI 20)) dX15_tests_94 rfl (by decide) ?_
        refine e_icmp_ne 107 99 dX15_tests_96 rfl rfl (fun c96 => ?_) (fun c96 => absurd c96 (fun z => absurd (j_eq_t (by omega) (by omega) z) (by omega)))
        refine e_iload 109 dX15_tests_107 rfl rfl ?_
        refine e_iconst 110 (v := (nI 2)) dX15_tests_109 rfl (by decide) ?_
        refine e_icmp_eq 125 113 dX15_tests_110 rfl rfl (fun c110 => absurd c110 (fun z => absurd (j_eq_t (by omega) (by omega) z) (by omega))) (fun c110 => ?_)
        refine e_iload 115 dX15_tests_113 rfl rfl ?_
        refine e_bipush 117 (v := (nI 11)) dX15_tests_115 rfl (by decide) ?_
        refine e_bipush 119 (v := (nI 18)) dX15_tests_117 rfl (by decide) ?_
        refine u_callS 122 dX15_tests_119 rfl cs_X15_81 (u_inN (by omega) (by omega) (by omega)) rfl rfl (Nat.le_of_ble_eq_true rfl) (by decide) ⟨by omega, by omega⟩ ?_
        refine e_if_eq 164 125 dX15_tests_122 rfl rfl (fun c122 => ?_) (fun c122 => absurd c122 (fun z => z (by rw [inN_f (by omega)]; rfl)))
        refine e_aload_n 165 dX15_tests_164 rfl rfl ?_
        refine e_aload_n 166 dX15_tests_165 rfl rfl ?_
        refine e_iload_n 167 dX15_tests_166 rfl rfl ?_
        refine p_callV 170 hL [1, 2, 0] 3 rfl (by decide) (L1 := [ansP m F w bg ([]), iar a qn q]) (L2 := [rdv d (zcD s (fun _ => 0))]) rfl ans_O 1 rfl dX15_tests_167 rfl cv_X15_168 (k_X15_same (by first | omega | (simp only [List.length_append, List.length_cons, List.length_nil, w2_len, List.length_take, rbR_len, rwR_len, List.length_reverse, tvR_len] <;> omega)) (by omega) hq (by omega)) rfl rfl (Nat.le_of_ble_eq_true rfl) ⟨by decide, by omega, by omega⟩ (fun r1 L1 h q hL => ?_)
        obtain ⟨rfl, rfl⟩ := q
        have hL : stars [ansP m F w bg ([] ++ q.take q.length), iar a qn q, rdv d (zcD s (fun _ => 0))] h := hL
        have hL : stars [rdv d (zcD s (fun _ => 0)), ansP m F w bg ([] ++ q.take q.length), iar a qn q] h := stars_ixn hL 3 rfl [2, 0, 1] (by decide) rfl
        exact e_vret dX15_tests_170 rfl (by omega) (by omega) (⟨_, ⟨rfl, rfl⟩, by rw [dnA, if_neg (by omega), if_neg (by omega), dn_10 (by omega)]; (have hL := (stars_ixn hL 3 rfl [1, 0, 2] (by decide) rfl)); rw [List.nil_append, List.take_of_length_le (Nat.le_refl _)] at hL; exact hL⟩)
  · have k10 := j_ne_f (a := (wd q 1)) (b := 4) (by omega) (by omega) c10
    have hL : stars [rdv d s, ansP m F w bg ([]), iar a qn q] h := stars_ixn hL 3 rfl [1, 0, 2] (by decide) rfl
    obtain ⟨A, hL⟩ := rdv_on hL
    have hL : stars [pt d (.inr (10, rdF A s)), rRn A s, ansP m F w bg ([]), iar a qn q] h := hL
    refine e_aload_n 14 dX15_tests_13 rfl rfl ?_
    refine e_iconst 15 (v := (nI 1)) dX15_tests_14 rfl (by decide) ?_
    refine p_put 18 hL 0 (fs' := (rdF A s).set 33 (.int (nI 1))) (L' := [pt d (.inr (10, (rdF A s).set 33 (.int (nI 1)))), rRn A s, ansP m F w bg ([]), iar a qn q]) rfl rfl dX15_tests_15 rfl fp_X15_211_10 (Or.inl rfl) (Nat.le_of_ble_eq_true rfl) (by decide) rfl rfl (fun h hL => ?_)
    have hL : stars [rdv d (dfD s true), ansP m F w bg ([]), iar a qn q] h := rdv_cn (s := s) (A := A) (fs' := (rdF A s).set 33 (.int (nI 1))) (v := s.1) (B := upB (dB s) 0 true) rfl rfl hL
    refine e_aload_n 19 dX15_tests_18 rfl rfl ?_
    refine e_iconst 20 (v := (nI 4)) dX15_tests_19 rfl (by decide) ?_
    refine p_callV 23 hL [0, 1, 2] 3 rfl (by decide) (L1 := [rdv d (dfD s true)]) (L2 := [ansP m F w bg ([]), iar a qn q]) rfl rdv_O 0 rfl dX15_tests_20 rfl cv_X15_215 (k_X12_tells (s := (dfD s true)) (e := 4) (by exact (okE_ln he).2.1)) rfl rfl (Nat.le_of_ble_eq_true rfl) ⟨by decide, by omega, by omega⟩ (fun r1 L1 h q hL => ?_)
    obtain ⟨rfl, rfl⟩ := q
    have hL : stars [rdv d (evD (dfD s true) 4), ansP m F w bg ([]), iar a qn q] h := hL
    exact e_vret dX15_tests_23 rfl (by omega) (by omega) (⟨_, ⟨rfl, rfl⟩, by rw [dnA, if_pos (by omega), dn_4 (by omega)]; exact (stars_ixn hL 3 rfl [1, 0, 2] (by decide) rfl)⟩)
