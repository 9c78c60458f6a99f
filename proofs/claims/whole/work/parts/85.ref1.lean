/-! the reference: numbers, sums, stations -/
set_option maxRecDepth 20000 in
set_option maxHeartbeats 2000000 in
theorem k_X15_two {a n k : Nat} {r : List Nat} (hk : k + 1 < r.length) (hn : n < 2 ^ 31) : CA mX15_two [.ref a, .int (nI k)] [iar a n r] (fun x K => x = some (.int (nI (wd r k))) ∧ K = [iar a n r]) 0 0 0 0 := by
  refine CA.mk 0 (ls := [some (.ref a), some (.int (nI k))]) rfl rfl (Nat.le_of_ble_eq_true rfl) rfl (fun h hL => ?_)
  refine e_sipush 3 (v := (nI 256)) dX15_two_0 rfl (by decide) ?_
  refine e_aload_n 4 dX15_two_3 rfl rfl ?_
  refine e_iload_n 5 dX15_two_4 rfl rfl ?_
  refine p_iald 6 hL 0 (r := r) (k := k) rfl dX15_two_5 rfl (by omega) (by omega) ?_
  refine e_imul 7 (v := (nI (256 * (r.getD k 0)))) dX15_two_6 rfl (pk_mul 256 (r.getD k 0)) ?_
  refine e_aload_n 8 dX15_two_7 rfl rfl ?_
  refine e_iload_n 9 dX15_two_8 rfl rfl ?_
  refine e_iconst 10 (v := (nI 1)) dX15_two_9 rfl (by decide) ?_
  refine e_iadd 11 (v := (nI (k + 1))) dX15_two_10 rfl (nI_add k 1) ?_
  refine p_iald 12 hL 0 (r := r) (k := (k + 1)) rfl dX15_two_11 rfl (by omega) (by omega) ?_
  refine e_iadd 13 (v := (nI ((256 * (r.getD k 0)) + (r.getD (k + 1) 0)))) dX15_two_12 rfl (nI_add (256 * (r.getD k 0)) (r.getD (k + 1) 0)) ?_
  exact e_iret dX15_two_13 rfl (by omega) (by omega) (⟨_, ⟨by rw [wd, if_pos hk, Nat.mul_comm], rfl⟩, hL⟩)
set_option maxRecDepth 20000 in
set_option maxHeartbeats 2000000 in
theorem l_X15_sumOf_b {a cap m i : Nat} {r : List Nat} {Q : Option Value → eH → Prop} : ∀ (n : Nat) (b c1 t : Nat) (h : eH), 8 - b < n → b + t = 8 → c1 < 65536 → (∀ h : eH, stars [iar a cap r] h → EE mX15_sumOf 0 0 0 0 Q 60 [some (.ref a), some (.int (nI m)), some (.int (nI (cr8 t c1))), some (.int (nI i)), none, none] [] h 0 0) → stars [iar a cap r] h → EE mX15_sumOf 0 0 0 0 (Q) 19 [some (.ref a), some (.int (nI m)), some (.int (nI c1)), some (.int (nI i)), some (.int (nI b)), none] [] h 0 0 := by
  intro n
  induction n with
  | zero => intro b c1 t h hlt hbt hc1 kk hL; exact absurd hlt (by omega)
  | succ n ih =>
    intro b c1 t h hlt hbt hc1 kk hL
    refine e_iload 21 dX15_sumOf_19 rfl rfl ?_
    refine e_bipush 23 (v := (nI 8)) dX15_sumOf_21 rfl (by decide) ?_
    refine e_icmp_ge 60 26 dX15_sumOf_23 rfl rfl (fun c23 => ?_) (fun c23 => ?_)
    · have k23 := j_ge_t (a := b) (b := 8) (by omega) (by omega) c23
      have hb8 : b = 8 := by omega
      have ht0 : t = 0 := by omega
      subst ht0
      subst hb8
      refine e_wk [some (.ref a), some (.int (nI m)), some (.int (nI c1)), some (.int (nI i)), none, none] ⟨rfl, rfl, rfl, rfl, trivial⟩ ?_
      exact kk h hL
    · have k23 := j_ge_f (a := b) (b := 8) (by omega) (by omega) c23
      obtain ⟨t9, rfl⟩ : ∃ t9, t = t9 + 1 := ⟨t - 1, by omega⟩
      refine e_iload_n 27 dX15_sumOf_26 rfl rfl ?_
      refine e_iconst 28 (v := (nI 2)) dX15_sumOf_27 rfl (by decide) ?_
      refine e_irem 29 (v := (nI (c1 % 2))) dX15_sumOf_28 rfl (by decide) (pk_rem (by omega) (by decide) (by decide)) ?_
      refine e_iconst 30 (v := (nI 1)) dX15_sumOf_29 rfl (by decide) ?_
      refine e_icmp_ne 37 33 dX15_sumOf_30 rfl rfl (fun c30 => ?_) (fun c30 => ?_)
      · have k30 := j_ne_t (a := (c1 % 2)) (b := 1) (by omega) (by omega) c30
        refine e_iconst 38 (v := (nI 0)) dX15_sumOf_37 rfl (by decide) ?_
        refine e_istore 40 (ls' := [some (.ref a), some (.int (nI m)), some (.int (nI c1)), some (.int (nI i)), some (.int (nI b)), some (.int (nI 0))]) dX15_sumOf_38 rfl (by decide) rfl ?_
        refine e_iload_n 41 dX15_sumOf_40 rfl rfl ?_
        refine e_iconst 42 (v := (nI 2)) dX15_sumOf_41 rfl (by decide) ?_
        refine e_idiv 43 (v := (nI (c1 / 2))) dX15_sumOf_42 rfl (by decide) (pk_div (by omega) (by decide) (by decide)) ?_
        refine e_istore_n 44 (ls' := [some (.ref a), some (.int (nI m)), some (.int (nI (c1 / 2))), some (.int (nI i)), some (.int (nI b)), some (.int (nI 0))]) dX15_sumOf_43 rfl (by decide) rfl ?_
        refine e_iload 46 dX15_sumOf_44 rfl rfl ?_
        refine e_if_eq 54 49 dX15_sumOf_46 rfl rfl (fun c46 => ?_) (fun c46 => absurd c46 (by decide))
        have e1 : cr1 c1 = (c1 / 2) := if_neg k30
        rw [← e1]
        refine e_iinc 57 (v := (nI (b + 1))) (ls' := [some (.ref a), some (.int (nI m)), some (.int (nI (cr1 c1))), some (.int (nI i)), some (.int (nI (b + 1))), some (.int (nI 0))]) dX15_sumOf_54 rfl rfl (nI_add b 1) (by decide) rfl ?_
        refine e_goto 19 dX15_sumOf_57 rfl ?_
        refine e_wk [some (.ref a), some (.int (nI m)), some (.int (nI (cr1 c1))), some (.int (nI i)), some (.int (nI (b + 1))), none] ⟨rfl, rfl, rfl, rfl, rfl, trivial⟩ ?_
        exact ih (b + 1) (cr1 c1) t9 h (by omega) (by omega) (cr1_lt hc1) (fun h hL => kk h hL) hL
      · have k30 := j_ne_f (a := (c1 % 2)) (b := 1) (by omega) (by omega) c30
        refine e_iconst 34 (v := (nI 1)) dX15_sumOf_33 rfl (by decide) ?_
        refine e_goto 38 dX15_sumOf_34 rfl ?_
        refine e_istore 40 (ls' := [some (.ref a), some (.int (nI m)), some (.int (nI c1)), some (.int (nI i)), some (.int (nI b)), some (.int (nI 1))]) dX15_sumOf_38 rfl (by decide) rfl ?_
        refine e_iload_n 41 dX15_sumOf_40 rfl rfl ?_
        refine e_iconst 42 (v := (nI 2)) dX15_sumOf_41 rfl (by decide) ?_
        refine e_idiv 43 (v := (nI (c1 / 2))) dX15_sumOf_42 rfl (by decide) (pk_div (by omega) (by decide) (by decide)) ?_
        refine e_istore_n 44 (ls' := [some (.ref a), some (.int (nI m)), some (.int (nI (c1 / 2))), some (.int (nI i)), some (.int (nI b)), some (.int (nI 1))]) dX15_sumOf_43 rfl (by decide) rfl ?_
        refine e_iload 46 dX15_sumOf_44 rfl rfl ?_
        refine e_if_eq 54 49 dX15_sumOf_46 rfl rfl (fun c46 => absurd c46 (by decide)) (fun c46 => ?_)
        refine e_iload_n 50 dX15_sumOf_49 rfl rfl ?_
        refine e_ldc 52 (v := (nI 40961)) dX15_sumOf_50 rfl cn_X15_77 ?_
        refine e_ixor 53 (v := (nI (c1 / 2 ^^^ 40961))) dX15_sumOf_52 rfl (nx_xor _ _) ?_
        refine e_istore_n 54 (ls' := [some (.ref a), some (.int (nI m)), some (.int (nI (c1 / 2 ^^^ 40961))), some (.int (nI i)), some (.int (nI b)), some (.int (nI 1))]) dX15_sumOf_53 rfl (by decide) rfl ?_
        have e1 : cr1 c1 = (c1 / 2 ^^^ 40961) := if_pos k30
        rw [← e1]
        refine e_iinc 57 (v := (nI (b + 1))) (ls' := [some (.ref a), some (.int (nI m)), some (.int (nI (cr1 c1))), some (.int (nI i)), some (.int (nI (b + 1))), some (.int (nI 1))]) dX15_sumOf_54 rfl rfl (nI_add b 1) (by decide) rfl ?_
        refine e_goto 19 dX15_sumOf_57 rfl ?_
        refine e_wk [some (.ref a), some (.int (nI m)), some (.int (nI (cr1 c1))), some (.int (nI i)), some (.int (nI (b + 1))), none] ⟨rfl, rfl, rfl, rfl, rfl, trivial⟩ ?_
        exact ih (b + 1) (cr1 c1) t9 h (by omega) (by omega) (cr1_lt hc1) (fun h hL => kk h hL) hL
set_option maxRecDepth 20000 in
set_option maxHeartbeats 2000000 in
theorem l_X15_sumOf {a cap m : Nat} {r : List Nat} (hm : m ≤ r.length) (hb : ∀ x ∈ r, x < 65536) (hc : cap < 100000) : ∀ (n : Nat) (i : Nat) (h : eH), m - i < n → i ≤ m → stars [iar a cap r] h → EE mX15_sumOf 0 0 0 0 (fun x h' => ∃ K, (x = some (.int (nI (crs (r.take m)))) ∧ K = [iar a cap r]) ∧ stars K h') 5 [some (.ref a), some (.int (nI m)), some (.int (nI (crs (r.take i)))), some (.int (nI i)), none, none] [] h 0 0 := by
  intro n
  induction n with
  | zero => intro i h hlt hle hL; exact absurd hlt (by omega)
  | succ n ih =>
    intro i h hlt hle hL
    have hle9 := iar_le _ 0 hL rfl
    refine e_iload_n 6 dX15_sumOf_5 rfl rfl ?_
    refine e_iload_n 7 dX15_sumOf_6 rfl rfl ?_
    refine e_icmp_ge 66 10 dX15_sumOf_7 rfl rfl (fun c7 => ?_) (fun c7 => ?_)
    · have k7 := j_ge_t (a := i) (b := m) (by omega) (by omega) c7
      refine e_iload_n 67 dX15_sumOf_66 rfl rfl ?_
      exact e_iret dX15_sumOf_67 rfl (by omega) (by omega) (⟨_, ⟨by rw [show i = m by omega], rfl⟩, hL⟩)
    · have k7 := j_ge_f (a := i) (b := m) (by omega) (by omega) c7
      refine e_iload_n 11 dX15_sumOf_10 rfl rfl ?_
      refine e_aload_n 12 dX15_sumOf_11 rfl rfl ?_
      refine e_iload_n 13 dX15_sumOf_12 rfl rfl ?_
      refine p_iald 14 hL 0 (r := r) (k := i) rfl dX15_sumOf_13 rfl (by omega) (by omega) ?_
      refine e_ixor 15 (v := (nI (crs (r.take i) ^^^ r.getD i 0))) dX15_sumOf_14 rfl (nx_xor _ _) ?_
      refine e_istore_n 16 (ls' := [some (.ref a), some (.int (nI m)), some (.int (nI (crs (r.take i) ^^^ r.getD i 0))), some (.int (nI i)), none, none]) dX15_sumOf_15 rfl (by decide) rfl ?_
      refine e_iconst 17 (v := (nI 0)) dX15_sumOf_16 rfl (by decide) ?_
      refine e_istore 19 (ls' := [some (.ref a), some (.int (nI m)), some (.int (nI (crs (r.take i) ^^^ r.getD i 0))), some (.int (nI i)), some (.int (nI 0)), none]) dX15_sumOf_17 rfl (by decide) rfl ?_
      refine e_wk [some (.ref a), some (.int (nI m)), some (.int (nI (crs (r.take i) ^^^ r.getD i 0))), some (.int (nI i)), some (.int (nI 0)), none] ⟨rfl, rfl, rfl, rfl, rfl, trivial⟩ ?_
      refine l_X15_sumOf_b _ 0 _ 8 h (Nat.lt_succ_self _) rfl (xor16 (crs_lt (fun x hx => hb x (List.mem_of_mem_take hx))) (gd_lt hb (by decide))) (fun h hL => ?_) hL
      rw [← crs_take (by omega)]
      refine e_iinc 63 (v := (nI (i + 1))) (ls' := [some (.ref a), some (.int (nI m)), some (.int (nI (crs (r.take (i + 1))))), some (.int (nI (i + 1))), none, none]) dX15_sumOf_60 rfl rfl (nI_add i 1) (by decide) rfl ?_
      refine e_goto 5 dX15_sumOf_63 rfl ?_
      refine e_wk [some (.ref a), some (.int (nI m)), some (.int (nI (crs (r.take (i + 1))))), some (.int (nI (i + 1))), none, none] ⟨rfl, rfl, rfl, rfl, trivial⟩ ?_
      exact ih (i + 1) h (by omega) (by omega) hL
set_option maxRecDepth 20000 in
set_option maxHeartbeats 2000000 in
theorem k_X15_sumOf {a cap m : Nat} {r : List Nat} (hm : m ≤ r.length) (hb : ∀ x ∈ r, x < 65536) (hc : cap < 100000) : CA mX15_sumOf [.ref a, .int (nI m)] [iar a cap r] (fun x K => x = some (.int (nI (crs (r.take m)))) ∧ K = [iar a cap r]) 0 0 0 0 := by
  refine CA.mk 4 (ls := [some (.ref a), some (.int (nI m)), none, none, none, none]) rfl rfl (Nat.le_of_ble_eq_true rfl) rfl (fun h hL => ?_)
  refine e_ldc 2 (v := (nI 65535)) dX15_sumOf_0 rfl cn_X15_76 ?_
  refine e_istore_n 3 (ls' := [some (.ref a), some (.int (nI m)), some (.int (nI 65535)), none, none, none]) dX15_sumOf_2 rfl (by decide) rfl ?_
  refine e_iconst 4 (v := (nI 0)) dX15_sumOf_3 rfl (by decide) ?_
  refine e_istore_n 5 (ls' := [some (.ref a), some (.int (nI m)), some (.int (nI 65535)), some (.int (nI 0)), none, none]) dX15_sumOf_4 rfl (by decide) rfl ?_
  exact l_X15_sumOf hm hb hc _ 0 h (Nat.lt_succ_self _) (Nat.zero_le _) hL
