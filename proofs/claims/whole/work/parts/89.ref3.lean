/-! the reference: methods that read alone: numbers, places -/
set_option maxRecDepth 20000 in
set_option maxHeartbeats 2000000 in
theorem u_inI {v a b : Int32} {h : eH} : PC mX15_in [.int v, .int a, .int b] h (some (.int (bI (inI v a b)))) 0 0 := by
  refine PC.mk 0 (ls := [some (.int v), some (.int a), some (.int b)]) rfl rfl (Nat.le_of_ble_eq_true rfl) rfl ?_
  refine e_iload_n 1 dX15_in_0 rfl rfl ?_
  refine e_iload_n 2 dX15_in_1 rfl rfl ?_
  refine e_icmp_lt 14 5 dX15_in_2 rfl rfl (fun c2 => ?_) (fun c2 => ?_)
  · refine e_iconst 15 (v := (nI 0)) dX15_in_14 rfl (by decide) ?_
    exact e_zret dX15_in_15 rfl (Or.inl (by decide)) (by omega) (by omega) (⟨by rw [show inI v a b = false by (simp only [inI, Bool.and_eq_true, Bool.and_eq_false_iff, decide_eq_true_eq, decide_eq_false_iff_not]; first | exact ⟨Int32.not_lt.mp c2, Int32.not_lt.mp c7⟩ | exact Or.inl (Int32.not_le.mpr c2) | exact Or.inr (Int32.not_le.mpr c7))]; rfl, rfl⟩)
  · refine e_iload_n 6 dX15_in_5 rfl rfl ?_
    refine e_iload_n 7 dX15_in_6 rfl rfl ?_
    refine e_icmp_gt 14 10 dX15_in_7 rfl rfl (fun c7 => ?_) (fun c7 => ?_)
    · refine e_iconst 15 (v := (nI 0)) dX15_in_14 rfl (by decide) ?_
      exact e_zret dX15_in_15 rfl (Or.inl (by decide)) (by omega) (by omega) (⟨by rw [show inI v a b = false by (simp only [inI, Bool.and_eq_true, Bool.and_eq_false_iff, decide_eq_true_eq, decide_eq_false_iff_not]; first | exact ⟨Int32.not_lt.mp c2, Int32.not_lt.mp c7⟩ | exact Or.inl (Int32.not_le.mpr c2) | exact Or.inr (Int32.not_le.mpr c7))]; rfl, rfl⟩)
    · refine e_iconst 11 (v := (nI 1)) dX15_in_10 rfl (by decide) ?_
      refine e_goto 15 dX15_in_11 rfl ?_
      exact e_zret dX15_in_15 rfl (Or.inr (by decide)) (by omega) (by omega) (⟨by rw [show inI v a b = true by (simp only [inI, Bool.and_eq_true, Bool.and_eq_false_iff, decide_eq_true_eq, decide_eq_false_iff_not]; first | exact ⟨Int32.not_lt.mp c2, Int32.not_lt.mp c7⟩ | exact Or.inl (Int32.not_le.mpr c2) | exact Or.inr (Int32.not_le.mpr c7))]; rfl, rfl⟩)
set_option maxRecDepth 20000 in
set_option maxHeartbeats 2000000 in
theorem u_inN {v a b : Nat} {h : eH} (hv : v < 2 ^ 31) (ha : a < 2 ^ 31) (hb : b < 2 ^ 31) : PC mX15_in [.int (nI v), .int (nI a), .int (nI b)] h (some (.int (bI (inN v a b)))) 0 0 := by
  refine PC.mk 0 (ls := [some (.int (nI v)), some (.int (nI a)), some (.int (nI b))]) rfl rfl (Nat.le_of_ble_eq_true rfl) rfl ?_
  refine e_iload_n 1 dX15_in_0 rfl rfl ?_
  refine e_iload_n 2 dX15_in_1 rfl rfl ?_
  refine e_icmp_lt 14 5 dX15_in_2 rfl rfl (fun c2 => ?_) (fun c2 => ?_)
  · have k2 := j_lt_t (a := v) (b := a) (by omega) (by omega) c2
    refine e_iconst 15 (v := (nI 0)) dX15_in_14 rfl (by decide) ?_
    exact e_zret dX15_in_15 rfl (Or.inl (by decide)) (by omega) (by omega) (⟨by rw [inN_f (by omega)]; rfl, rfl⟩)
  · have k2 := j_lt_f (a := v) (b := a) (by omega) (by omega) c2
    refine e_iload_n 6 dX15_in_5 rfl rfl ?_
    refine e_iload_n 7 dX15_in_6 rfl rfl ?_
    refine e_icmp_gt 14 10 dX15_in_7 rfl rfl (fun c7 => ?_) (fun c7 => ?_)
    · have k7 := j_gt_t (a := v) (b := b) (by omega) (by omega) c7
      refine e_iconst 15 (v := (nI 0)) dX15_in_14 rfl (by decide) ?_
      exact e_zret dX15_in_15 rfl (Or.inl (by decide)) (by omega) (by omega) (⟨by rw [inN_f (by omega)]; rfl, rfl⟩)
    · have k7 := j_gt_f (a := v) (b := b) (by omega) (by omega) c7
      refine e_iconst 11 (v := (nI 1)) dX15_in_10 rfl (by decide) ?_
      refine e_goto 15 dX15_in_11 rfl ?_
      exact e_zret dX15_in_15 rfl (Or.inr (by decide)) (by omega) (by omega) (⟨by rw [inN_t (by omega)]; rfl, rfl⟩)
set_option maxRecDepth 20000 in
set_option maxHeartbeats 2000000 in
theorem u_X15_two {a n k : Nat} {r : List Nat} {h : eH} (hq : iaR a n r h) (hk : k + 1 < r.length) (hn : n < 2 ^ 31) : PC mX15_two [.ref a, .int (nI k)] h (some (.int (nI (wd r k)))) 0 0 := by
  have hle := hq.le
  refine PC.mk 0 (ls := [some (.ref a), some (.int (nI k))]) rfl rfl (Nat.le_of_ble_eq_true rfl) rfl ?_
  refine e_sipush 3 (v := (nI 256)) dX15_two_0 rfl (by decide) ?_
  refine e_aload_n 4 dX15_two_3 rfl rfl ?_
  refine e_iload_n 5 dX15_two_4 rfl rfl ?_
  refine v_iald 6 hq (k := k) (x := (r.getD k 0)) dX15_two_5 rfl (by omega) (by omega) rfl ?_
  refine e_imul 7 (v := (nI (256 * (r.getD k 0)))) dX15_two_6 rfl (pk_mul 256 (r.getD k 0)) ?_
  refine e_aload_n 8 dX15_two_7 rfl rfl ?_
  refine e_iload_n 9 dX15_two_8 rfl rfl ?_
  refine e_iconst 10 (v := (nI 1)) dX15_two_9 rfl (by decide) ?_
  refine e_iadd 11 (v := (nI (k + 1))) dX15_two_10 rfl (nI_add k 1) ?_
  refine v_iald 12 hq (k := (k + 1)) (x := (r.getD (k + 1) 0)) dX15_two_11 rfl (by omega) (by omega) rfl ?_
  refine e_iadd 13 (v := (nI ((256 * (r.getD k 0)) + (r.getD (k + 1) 0)))) dX15_two_12 rfl (nI_add (256 * (r.getD k 0)) (r.getD (k + 1) 0)) ?_
  exact e_iret dX15_two_13 rfl (by omega) (by omega) (⟨by rw [wd, if_pos hk, Nat.mul_comm], rfl⟩)
set_option maxRecDepth 20000 in
set_option maxHeartbeats 2000000 in
theorem ul_sumOf_b {a m i : Nat} {Q : Option Value → eH → Prop} {h : eH} : ∀ (n : Nat) (b c1 t : Nat), 8 - b < n → b + t = 8 → c1 < 65536 → EE mX15_sumOf 0 0 0 0 Q 60 [some (.ref a), some (.int (nI m)), some (.int (nI (cr8 t c1))), some (.int (nI i)), none, none] [] h 0 0 → EE mX15_sumOf 0 0 0 0 (Q) 19 [some (.ref a), some (.int (nI m)), some (.int (nI c1)), some (.int (nI i)), some (.int (nI b)), none] [] h 0 0 := by
  intro n
  induction n with
  | zero => intro b c1 t hlt hbt hc1 kk; exact absurd hlt (by omega)
  | succ n ih =>
    intro b c1 t hlt hbt hc1 kk
    refine e_iload 21 dX15_sumOf_19 rfl rfl ?_
    refine e_bipush 23 (v := (nI 8)) dX15_sumOf_21 rfl (by decide) ?_
    refine e_icmp_ge 60 26 dX15_sumOf_23 rfl rfl (fun c23 => ?_) (fun c23 => ?_)
    · have k23 := j_ge_t (a := b) (b := 8) (by omega) (by omega) c23
      have hb8 : b = 8 := by omega
      have ht0 : t = 0 := by omega
      subst ht0
      subst hb8
      refine e_wk [some (.ref a), some (.int (nI m)), some (.int (nI c1)), some (.int (nI i)), none, none] ⟨rfl, rfl, rfl, rfl, trivial⟩ ?_
      exact kk
    · have k23 := j_ge_f (a := b) (b := 8) (by omega) (by omega) c23
      obtain ⟨t9, rfl⟩ : ∃ t9, t = t9 + 1 := ⟨t - 1, by omega⟩
      refine e_iload_n 27 dX15_sumOf_26 rfl rfl ?_
      refine e_iconst 28 (v := (nI 2)) dX15_sumOf_27 rfl (by decide) ?_
      refine e_irem 29 (v := (nI (c1 % 2))) dX15_sumOf_28 rfl (by decide) (pk_rem (by omega) (by decide) (by decide)) ?_
      refine e_iconst 30 (v := (nI 1)) dX15_sumOf_29 rfl (by decide) ?_
      refine e_icmp_ne 37 33 dX15_sumOf_30 rfl rfl (fun c30 => ?_) (fun c30 => ?_)
      · have k30 := j_ne_t (a := (c1 % 2)) (b := 1) (by omega) (by omega) c30
        refine e_iconst 38 (v := (nI 0)) dX15_sumOf_37 rfl (by decide) ?_
        refine e_istore 40 (ls' := [some (.ref a), some (.int (nI m)), some (.int (nI c1)), some (.int (nI i)), some (.int (nI b)), some (.int (nI 0))]) dX15_sumOf_38 rfl (by decide) rfl ?_
        refine e_iload_n 41 dX15_sumOf_40 rfl rfl ?_
        refine e_iconst 42 (v := (nI 2)) dX15_sumOf_41 rfl (by decide) ?_
        refine e_idiv 43 (v := (nI (c1 / 2))) dX15_sumOf_42 rfl (by decide) (pk_div (by omega) (by decide) (by decide)) ?_
        refine e_istore_n 44 (ls' := [some (.ref a), some (.int (nI m)), some (.int (nI (c1 / 2))), some (.int (nI i)), some (.int (nI b)), some (.int (nI 0))]) dX15_sumOf_43 rfl (by decide) rfl ?_
        refine e_iload 46 dX15_sumOf_44 rfl rfl ?_
        refine e_if_eq 54 49 dX15_sumOf_46 rfl rfl (fun c46 => ?_) (fun c46 => absurd c46 (by decide))
        have e1 : cr1 c1 = (c1 / 2) := if_neg k30
        rw [← e1]
        refine e_iinc 57 (v := (nI (b + 1))) (ls' := [some (.ref a), some (.int (nI m)), some (.int (nI (cr1 c1))), some (.int (nI i)), some (.int (nI (b + 1))), some (.int (nI 0))]) dX15_sumOf_54 rfl rfl (nI_add b 1) (by decide) rfl ?_
        refine e_goto 19 dX15_sumOf_57 rfl ?_
        refine e_wk [some (.ref a), some (.int (nI m)), some (.int (nI (cr1 c1))), some (.int (nI i)), some (.int (nI (b + 1))), none] ⟨rfl, rfl, rfl, rfl, rfl, trivial⟩ ?_
        exact ih (b + 1) (cr1 c1) t9 (by omega) (by omega) (cr1_lt hc1) kk
      · have k30 := j_ne_f (a := (c1 % 2)) (b := 1) (by omega) (by omega) c30
        refine e_iconst 34 (v := (nI 1)) dX15_sumOf_33 rfl (by decide) ?_
        refine e_goto 38 dX15_sumOf_34 rfl ?_
        refine e_istore 40 (ls' := [some (.ref a), some (.int (nI m)), some (.int (nI c1)), some (.int (nI i)), some (.int (nI b)), some (.int (nI 1))]) dX15_sumOf_38 rfl (by decide) rfl ?_
        refine e_iload_n 41 dX15_sumOf_40 rfl rfl ?_
        refine e_iconst 42 (v := (nI 2)) dX15_sumOf_41 rfl (by decide) ?_
        refine e_idiv 43 (v := (nI (c1 / 2))) dX15_sumOf_42 rfl (by decide) (pk_div (by omega) (by decide) (by decide)) ?_
        refine e_istore_n 44 (ls' := [some (.ref a), some (.int (nI m)), some (.int (nI (c1 / 2))), some (.int (nI i)), some (.int (nI b)), some (.int (nI 1))]) dX15_sumOf_43 rfl (by decide) rfl ?_
        refine e_iload 46 dX15_sumOf_44 rfl rfl ?_
        refine e_if_eq 54 49 dX15_sumOf_46 rfl rfl (fun c46 => absurd c46 (by decide)) (fun c46 => ?_)
        refine e_iload_n 50 dX15_sumOf_49 rfl rfl ?_
        refine e_ldc 52 (v := (nI 40961)) dX15_sumOf_50 rfl cn_X15_77 ?_
        refine e_ixor 53 (v := (nI (c1 / 2 ^^^ 40961))) dX15_sumOf_52 rfl (nx_xor _ _) ?_
        refine e_istore_n 54 (ls' := [some (.ref a), some (.int (nI m)), some (.int (nI (c1 / 2 ^^^ 40961))), some (.int (nI i)), some (.int (nI b)), some (.int (nI 1))]) dX15_sumOf_53 rfl (by decide) rfl ?_
        have e1 : cr1 c1 = (c1 / 2 ^^^ 40961) := if_pos k30
        rw [← e1]
        refine e_iinc 57 (v := (nI (b + 1))) (ls' := [some (.ref a), some (.int (nI m)), some (.int (nI (cr1 c1))), some (.int (nI i)), some (.int (nI (b + 1))), some (.int (nI 1))]) dX15_sumOf_54 rfl rfl (nI_add b 1) (by decide) rfl ?_
        refine e_goto 19 dX15_sumOf_57 rfl ?_
        refine e_wk [some (.ref a), some (.int (nI m)), some (.int (nI (cr1 c1))), some (.int (nI i)), some (.int (nI (b + 1))), none] ⟨rfl, rfl, rfl, rfl, rfl, trivial⟩ ?_
        exact ih (b + 1) (cr1 c1) t9 (by omega) (by omega) (cr1_lt hc1) kk
set_option maxRecDepth 20000 in
set_option maxHeartbeats 2000000 in
theorem ul_sumOf {a cap m : Nat} {r : List Nat} {h : eH} (hq : iaR a cap r h) (hm : m ≤ r.length) (hb : ∀ x ∈ r, x < 65536) (hc : cap < 100000) : ∀ (n : Nat) (i : Nat), m - i < n → i ≤ m → EE mX15_sumOf 0 0 0 0 (fun x9 h9 => x9 = some (.int (nI (crs (r.take m)))) ∧ h9 = h) 5 [some (.ref a), some (.int (nI m)), some (.int (nI (crs (r.take i)))), some (.int (nI i)), none, none] [] h 0 0 := by
  intro n
  induction n with
  | zero => intro i hlt hle; exact absurd hlt (by omega)
  | succ n ih =>
    intro i hlt hle
    have hle9 := hq.le
    refine e_iload_n 6 dX15_sumOf_5 rfl rfl ?_
    refine e_iload_n 7 dX15_sumOf_6 rfl rfl ?_
    refine e_icmp_ge 66 10 dX15_sumOf_7 rfl rfl (fun c7 => ?_) (fun c7 => ?_)
    · have k7 := j_ge_t (a := i) (b := m) (by omega) (by omega) c7
      refine e_iload_n 67 dX15_sumOf_66 rfl rfl ?_
      exact e_iret dX15_sumOf_67 rfl (by omega) (by omega) (⟨by rw [show i = m by omega], rfl⟩)
    · have k7 := j_ge_f (a := i) (b := m) (by omega) (by omega) c7
      refine e_iload_n 11 dX15_sumOf_10 rfl rfl ?_
      refine e_aload_n 12 dX15_sumOf_11 rfl rfl ?_
      refine e_iload_n 13 dX15_sumOf_12 rfl rfl ?_
      refine v_iald 14 hq (k := i) (x := (r.getD i 0)) dX15_sumOf_13 rfl (by omega) (by omega) rfl ?_
      refine e_ixor 15 (v := (nI (crs (r.take i) ^^^ r.getD i 0))) dX15_sumOf_14 rfl (nx_xor _ _) ?_
      refine e_istore_n 16 (ls' := [some (.ref a), some (.int (nI m)), some (.int (nI (crs (r.take i) ^^^ r.getD i 0))), some (.int (nI i)), none, none]) dX15_sumOf_15 rfl (by decide) rfl ?_
      refine e_iconst 17 (v := (nI 0)) dX15_sumOf_16 rfl (by decide) ?_
      refine e_istore 19 (ls' := [some (.ref a), some (.int (nI m)), some (.int (nI (crs (r.take i) ^^^ r.getD i 0))), some (.int (nI i)), some (.int (nI 0)), none]) dX15_sumOf_17 rfl (by decide) rfl ?_
      refine e_wk [some (.ref a), some (.int (nI m)), some (.int (nI (crs (r.take i) ^^^ r.getD i 0))), some (.int (nI i)), some (.int (nI 0)), none] ⟨rfl, rfl, rfl, rfl, rfl, trivial⟩ ?_
      refine ul_sumOf_b _ 0 _ 8 (Nat.lt_succ_self _) rfl (xor16 (crs_lt (fun x hx => hb x (List.mem_of_mem_take hx))) (gd_lt hb (by decide))) ?_
      rw [← crs_take (by omega)]
      refine e_iinc 63 (v := (nI (i + 1))) (ls' := [some (.ref a), some (.int (nI m)), some (.int (nI (crs (r.take (i + 1))))), some (.int (nI (i + 1))), none, none]) dX15_sumOf_60 rfl rfl (nI_add i 1) (by decide) rfl ?_
      refine e_goto 5 dX15_sumOf_63 rfl ?_
      refine e_wk [some (.ref a), some (.int (nI m)), some (.int (nI (crs (r.take (i + 1))))), some (.int (nI (i + 1))), none, none] ⟨rfl, rfl, rfl, rfl, trivial⟩ ?_
      exact ih (i + 1) (by omega) (by omega)
set_option maxRecDepth 20000 in
set_option maxHeartbeats 2000000 in
theorem u_X15_sumOf {a cap m : Nat} {r : List Nat} {h : eH} (hq : iaR a cap r h) (hm : m ≤ r.length) (hb : ∀ x ∈ r, x < 65536) (hc : cap < 100000) : PC mX15_sumOf [.ref a, .int (nI m)] h (some (.int (nI (crs (r.take m))))) 0 0 := by
  refine PC.mk 4 (ls := [some (.ref a), some (.int (nI m)), none, none, none, none]) rfl rfl (Nat.le_of_ble_eq_true rfl) rfl ?_
  refine e_ldc 2 (v := (nI 65535)) dX15_sumOf_0 rfl cn_X15_76 ?_
  refine e_istore_n 3 (ls' := [some (.ref a), some (.int (nI m)), some (.int (nI 65535)), none, none, none]) dX15_sumOf_2 rfl (by decide) rfl ?_
  refine e_iconst 4 (v := (nI 0)) dX15_sumOf_3 rfl (by decide) ?_
  refine e_istore_n 5 (ls' := [some (.ref a), some (.int (nI m)), some (.int (nI 65535)), some (.int (nI 0)), none, none]) dX15_sumOf_4 rfl (by decide) rfl ?_
  exact ul_sumOf hq hm hb hc _ 0 (Nat.lt_succ_self _) (Nat.zero_le _)
set_option maxRecDepth 20000 in
set_option maxHeartbeats 2000000 in
theorem u_X12_place {d k x : Nat} {s : DS} {h : eH} (hv : rdV d s h) (he : okE s) (hk : k < 4) (hx : x < 2 ^ 31) : PC mX12_place [.ref d, .int (nI k), .int (nI x)] h (some (.int (if dF s k ≤ x ∧ x < dF s k + (dL s k).length then nI (x - dF s k) else -1))) 0 0 := by
  obtain ⟨A, v0, v1, v2, v3, v4, v5, v6, v7, v8, v9, v10, v11, v12, v13, v14, v15, v16, v17, v18, v19, v20, v21⟩ := hv
  have ho := okE_pl he (k := k) hk
  refine PC.mk 0 (ls := [some (.ref d), some (.int (nI k)), some (.int (nI x))]) rfl rfl (Nat.le_of_ble_eq_true rfl) rfl ?_
  refine e_iload_n 1 dX12_place_0 rfl rfl ?_
  refine e_aload_n 2 dX12_place_1 rfl rfl ?_
  refine e_get 5 dX12_place_2 rfl fl_X12_16_10 v0 rfl ?_
  refine e_iload_n 6 dX12_place_5 rfl rfl ?_
  refine v_iald 7 v3 (k := k) (x := (dF s k)) dX12_place_6 rfl (by simp only [tbl_len, kys_len, szs_len, List.length_reverse] <;> omega) (by omega) (tbl_at (by omega)) ?_
  refine e_icmp_lt 38 10 dX12_place_7 rfl rfl (fun c7 => ?_) (fun c7 => ?_)
  · have k7 := j_lt_t (a := x) (b := (dF s k)) (by omega) (by omega) c7
    refine e_iconst 39 (v := (-1)) dX12_place_38 rfl (by decide) ?_
    exact e_iret dX12_place_39 rfl (by omega) (by omega) (⟨by rw [if_neg (by omega)], rfl⟩)
  · have k7 := j_lt_f (a := x) (b := (dF s k)) (by omega) (by omega) c7
    refine e_iload_n 11 dX12_place_10 rfl rfl ?_
    refine e_aload_n 12 dX12_place_11 rfl rfl ?_
    refine e_get 15 dX12_place_12 rfl fl_X12_16_10 v0 rfl ?_
    refine e_iload_n 16 dX12_place_15 rfl rfl ?_
    refine v_iald 17 v3 (k := k) (x := (dF s k)) dX12_place_16 rfl (by simp only [tbl_len, kys_len, szs_len, List.length_reverse] <;> omega) (by omega) (tbl_at (by omega)) ?_
    refine e_aload_n 18 dX12_place_17 rfl rfl ?_
    refine e_get 21 dX12_place_18 rfl fl_X12_20_10 v0 rfl ?_
    refine e_iload_n 22 dX12_place_21 rfl rfl ?_
    refine v_iald 23 v4 (k := k) (x := (dL s k).length) dX12_place_22 rfl (by simp only [tbl_len, kys_len, szs_len, List.length_reverse] <;> omega) (by omega) (tbl_at (by omega)) ?_
    refine e_iadd 24 (v := (nI ((dF s k) + ((dL s k).length)))) dX12_place_23 rfl (nI_add (dF s k) ((dL s k).length)) ?_
    refine e_icmp_ge 38 27 dX12_place_24 rfl rfl (fun c24 => ?_) (fun c24 => ?_)
    · have k24 := j_ge_t (a := x) (b := ((dF s k) + ((dL s k).length))) (by omega) (by omega) c24
      refine e_iconst 39 (v := (-1)) dX12_place_38 rfl (by decide) ?_
      exact e_iret dX12_place_39 rfl (by omega) (by omega) (⟨by rw [if_neg (by omega)], rfl⟩)
    · have k24 := j_ge_f (a := x) (b := ((dF s k) + ((dL s k).length))) (by omega) (by omega) c24
      refine e_iload_n 28 dX12_place_27 rfl rfl ?_
      refine e_aload_n 29 dX12_place_28 rfl rfl ?_
      refine e_get 32 dX12_place_29 rfl fl_X12_16_10 v0 rfl ?_
      refine e_iload_n 33 dX12_place_32 rfl rfl ?_
      refine v_iald 34 v3 (k := k) (x := (dF s k)) dX12_place_33 rfl (by simp only [tbl_len, kys_len, szs_len, List.length_reverse] <;> omega) (by omega) (tbl_at (by omega)) ?_
      refine e_isub 35 (v := (nI (x - dF s k))) dX12_place_34 rfl (pk_sub (by omega)) ?_
      refine e_goto 39 dX12_place_35 rfl ?_
      exact e_iret dX12_place_39 rfl (by omega) (by omega) (⟨by rw [if_pos (by omega)], rfl⟩)
set_option maxRecDepth 20000 in
set_option maxHeartbeats 2000000 in
theorem u_X12_placeN {d k : Nat} {x : Int32} {s : DS} {h : eH} (hv : rdV d s h) (he : okE s) (hk : k < 4) (hx : x < 0) : PC mX12_place [.ref d, .int (nI k), .int x] h (some (.int (-1))) 0 0 := by
  obtain ⟨A, v0, v1, v2, v3, v4, v5, v6, v7, v8, v9, v10, v11, v12, v13, v14, v15, v16, v17, v18, v19, v20, v21⟩ := hv
  have ho := okE_pl he (k := k) hk
  have hlt : x < nI (dF s k) := neg_nI hx (by omega)
  refine PC.mk 0 (ls := [some (.ref d), some (.int (nI k)), some (.int x)]) rfl rfl (Nat.le_of_ble_eq_true rfl) rfl ?_
  refine e_iload_n 1 dX12_place_0 rfl rfl ?_
  refine e_aload_n 2 dX12_place_1 rfl rfl ?_
  refine e_get 5 dX12_place_2 rfl fl_X12_16_10 v0 rfl ?_
  refine e_iload_n 6 dX12_place_5 rfl rfl ?_
  refine v_iald 7 v3 (k := k) (x := (dF s k)) dX12_place_6 rfl (by simp only [tbl_len, kys_len, szs_len, List.length_reverse] <;> omega) (by omega) (tbl_at (by omega)) ?_
  refine e_icmp_lt 38 10 dX12_place_7 rfl rfl (fun c7 => ?_) (fun c7 => absurd c7 (fun z => z hlt))
  refine e_iconst 39 (v := (-1)) dX12_place_38 rfl (by decide) ?_
  exact e_iret dX12_place_39 rfl (by omega) (by omega) (⟨rfl, rfl⟩)
theorem u_X12_placeT {d k x : Nat} {s : DS} {h : eH} (hv : rdV d s h) (he : okE s) (hk : k < 4) (hx : x < 2 ^ 31) (hr : dF s k ≤ x ∧ x < dF s k + (dL s k).length) : PC mX12_place [.ref d, .int (nI k), .int (nI x)] h (some (.int (nI (x - dF s k)))) 0 0 := by
  have := u_X12_place hv he hk hx
  rwa [if_pos hr] at this
set_option maxRecDepth 20000 in
set_option maxHeartbeats 2000000 in
theorem u_X12_get {d k x : Nat} {s : DS} {h : eH} (hv : rdV d s h) (he : okE s) (hk : k < 4) (hr : dF s k ≤ x ∧ x < dF s k + (dL s k).length) : PC mX12_get [.ref d, .int (nI k), .int (nI x)] h (some (.int (nI ((dL s k).getD (x - dF s k) 0)))) 1 22 := by
  have hv9 := hv
  obtain ⟨A, v0, v1, v2, v3, v4, v5, v6, v7, v8, v9, v10, v11, v12, v13, v14, v15, v16, v17, v18, v19, v20, v21⟩ := hv9
  have ho := okE_pl he (k := k) hk
  refine PC.mk 0 (ls := [some (.ref d), some (.int (nI k)), some (.int (nI x))]) rfl rfl (Nat.le_of_ble_eq_true rfl) rfl ?_
  refine e_aload_n 1 dX12_get_0 rfl rfl ?_
  refine e_get 4 dX12_get_1 rfl fl_X12_11_10 v0 rfl ?_
  refine e_iload_n 5 dX12_get_4 rfl rfl ?_
  refine v_aald 6 v2 (k := k) dX12_get_5 rfl (by omega) (by omega) (fun b5 y5 => ?_)
  refine e_aload_n 7 dX12_get_6 rfl rfl ?_
  refine e_iload_n 8 dX12_get_7 rfl rfl ?_
  refine e_iload_n 9 dX12_get_8 rfl rfl ?_
  refine u_callV 12 dX12_get_9 rfl cv_X12_79 v0 (u_X12_placeT hv he hk (by omega) hr) rfl rfl (Nat.le_of_ble_eq_true rfl) (by decide) ⟨by omega, by omega⟩ ?_
  refine v_iald 13 y5 (k := (x - dF s k)) (x := ((dL s k).getD (x - dF s k) 0)) dX12_get_12 rfl (by omega) (by omega) rfl ?_
  exact e_iret dX12_get_13 rfl (by omega) (by omega) (⟨rfl, rfl⟩)
set_option maxRecDepth 20000 in
set_option maxHeartbeats 2000000 in
theorem ul_has {d k a m : Nat} {s : DS} {h : eH} (hv : rdV d s h) (he : okE s) (hk : k < 4) (ha : a < 100000) (hm : m < 100000) : ∀ (n : Nat) (i : Nat), m - i < n → i ≤ m → EE mX12_has 1 22 0 0 (fun x9 h9 => x9 = some (.int (bI (plZ s k a m))) ∧ h9 = h) 6 [some (.ref d), some (.int (nI k)), some (.int (nI a)), some (.int (nI m)), some (.int (bI (plZ s k a i))), some (.int (nI i))] [] h 0 0 := by
  intro n
  induction n with
  | zero => intro i hlt hle; exact absurd hlt (by omega)
  | succ n ih =>
    intro i hlt hle
    have hv9 := hv
    obtain ⟨A, v0, v1, v2, v3, v4, v5, v6, v7, v8, v9, v10, v11, v12, v13, v14, v15, v16, v17, v18, v19, v20, v21⟩ := hv9
    have ho := okE_pl he (k := k) hk
    refine e_iload 8 dX12_has_6 rfl rfl ?_
    refine e_iload_n 9 dX12_has_8 rfl rfl ?_
    refine e_icmp_ge 43 12 dX12_has_9 rfl rfl (fun c9 => ?_) (fun c9 => ?_)
    · have k9 := j_ge_t (a := i) (b := m) (by omega) (by omega) c9
      refine e_iload 45 dX12_has_43 rfl rfl ?_
      exact e_zret dX12_has_45 rfl (bI_01 _) (by omega) (by omega) (⟨by rw [show i = m by omega], rfl⟩)
    · have k9 := j_ge_f (a := i) (b := m) (by omega) (by omega) c9
      refine e_iload 14 dX12_has_12 rfl rfl ?_
      refine e_if_eq 34 17 dX12_has_14 rfl rfl (fun c14 => ?_) (fun c14 => ?_)
      · have k14 := jb_eq_t c14
        refine e_iconst 35 (v := (nI 0)) dX12_has_34 rfl (by decide) ?_
        refine e_top (v' := (bI (plZ s k a (i + 1)))) (by rw [show plZ s k a (i + 1) = false by (simp only [plZ, decide_eq_true_eq, decide_eq_false_iff_not] at k14 ⊢; omega)]; rfl) ?_
        refine e_istore 37 (ls' := [some (.ref d), some (.int (nI k)), some (.int (nI a)), some (.int (nI m)), some (.int (bI (plZ s k a (i + 1)))), some (.int (nI i))]) dX12_has_35 rfl (by decide) rfl ?_
        refine e_iinc 40 (v := (nI (i + 1))) (ls' := [some (.ref d), some (.int (nI k)), some (.int (nI a)), some (.int (nI m)), some (.int (bI (plZ s k a (i + 1)))), some (.int (nI (i + 1)))]) dX12_has_37 rfl rfl (nI_add i 1) (by decide) rfl ?_
        refine e_goto 6 dX12_has_40 rfl ?_
        refine e_wk [some (.ref d), some (.int (nI k)), some (.int (nI a)), some (.int (nI m)), some (.int (bI (plZ s k a (i + 1)))), some (.int (nI (i + 1)))] ⟨rfl, rfl, rfl, rfl, rfl, rfl, trivial⟩ ?_
        exact ih (i + 1) (by omega) (by omega)
      · have k14 := jb_eq_f c14
        refine e_aload_n 18 dX12_has_17 rfl rfl ?_
        refine e_iload_n 19 dX12_has_18 rfl rfl ?_
        refine e_iload_n 20 dX12_has_19 rfl rfl ?_
        refine e_iload 22 dX12_has_20 rfl rfl ?_
        refine e_iadd 23 (v := (nI (a + i))) dX12_has_22 rfl (nI_add a i) ?_
        refine u_callV 26 dX12_has_23 rfl cv_X12_79 v0 (u_X12_place hv he hk (by omega)) rfl rfl (Nat.le_of_ble_eq_true rfl) (by decide) ⟨by omega, by omega⟩ ?_
        refine e_iconst 27 (v := (-1)) dX12_has_26 rfl (by decide) ?_
        refine e_icmp_eq 34 30 dX12_has_27 rfl rfl (fun c27 => ?_) (fun c27 => ?_)
        · have k27 : ¬ (dF s k ≤ a + i ∧ a + i < dF s k + (dL s k).length) := fun z => by rw [if_pos z] at c27; exact nI_ne_m1 (by omega) c27
          refine e_iconst 35 (v := (nI 0)) dX12_has_34 rfl (by decide) ?_
          refine e_top (v' := (bI (plZ s k a (i + 1)))) (by rw [show plZ s k a (i + 1) = false by (simp only [plZ, decide_eq_true_eq, decide_eq_false_iff_not] at k14 ⊢; omega)]; rfl) ?_
          refine e_istore 37 (ls' := [some (.ref d), some (.int (nI k)), some (.int (nI a)), some (.int (nI m)), some (.int (bI (plZ s k a (i + 1)))), some (.int (nI i))]) dX12_has_35 rfl (by decide) rfl ?_
          refine e_iinc 40 (v := (nI (i + 1))) (ls' := [some (.ref d), some (.int (nI k)), some (.int (nI a)), some (.int (nI m)), some (.int (bI (plZ s k a (i + 1)))), some (.int (nI (i + 1)))]) dX12_has_37 rfl rfl (nI_add i 1) (by decide) rfl ?_
          refine e_goto 6 dX12_has_40 rfl ?_
          refine e_wk [some (.ref d), some (.int (nI k)), some (.int (nI a)), some (.int (nI m)), some (.int (bI (plZ s k a (i + 1)))), some (.int (nI (i + 1)))] ⟨rfl, rfl, rfl, rfl, rfl, rfl, trivial⟩ ?_
          exact ih (i + 1) (by omega) (by omega)
        · have k27 : dF s k ≤ a + i ∧ a + i < dF s k + (dL s k).length := Decidable.byContradiction fun z => by rw [if_neg z] at c27; exact c27 rfl
          refine e_iconst 31 (v := (nI 1)) dX12_has_30 rfl (by decide) ?_
          refine e_goto 35 dX12_has_31 rfl ?_
          refine e_top (v' := (bI (plZ s k a (i + 1)))) (by rw [show plZ s k a (i + 1) = true by (simp only [plZ, decide_eq_true_eq, decide_eq_false_iff_not] at k14 ⊢; omega)]; rfl) ?_
          refine e_istore 37 (ls' := [some (.ref d), some (.int (nI k)), some (.int (nI a)), some (.int (nI m)), some (.int (bI (plZ s k a (i + 1)))), some (.int (nI i))]) dX12_has_35 rfl (by decide) rfl ?_
          refine e_iinc 40 (v := (nI (i + 1))) (ls' := [some (.ref d), some (.int (nI k)), some (.int (nI a)), some (.int (nI m)), some (.int (bI (plZ s k a (i + 1)))), some (.int (nI (i + 1)))]) dX12_has_37 rfl rfl (nI_add i 1) (by decide) rfl ?_
          refine e_goto 6 dX12_has_40 rfl ?_
          refine e_wk [some (.ref d), some (.int (nI k)), some (.int (nI a)), some (.int (nI m)), some (.int (bI (plZ s k a (i + 1)))), some (.int (nI (i + 1)))] ⟨rfl, rfl, rfl, rfl, rfl, rfl, trivial⟩ ?_
          exact ih (i + 1) (by omega) (by omega)
set_option maxRecDepth 20000 in
set_option maxHeartbeats 2000000 in
theorem u_X12_has {d k a m : Nat} {s : DS} {h : eH} (hv : rdV d s h) (he : okE s) (hk : k < 4) (ha : a < 100000) (hm : m < 100000) : PC mX12_has [.ref d, .int (nI k), .int (nI a), .int (nI m)] h (some (.int (bI (plZ s k a m)))) 1 22 := by
  refine PC.mk 2 (ls := [some (.ref d), some (.int (nI k)), some (.int (nI a)), some (.int (nI m)), none, none]) rfl rfl (Nat.le_of_ble_eq_true rfl) rfl ?_
  refine e_iconst 1 (v := (nI 1)) dX12_has_0 rfl (by decide) ?_
  refine e_istore 3 (ls' := [some (.ref d), some (.int (nI k)), some (.int (nI a)), some (.int (nI m)), some (.int (nI 1)), none]) dX12_has_1 rfl (by decide) rfl ?_
  refine e_iconst 4 (v := (nI 0)) dX12_has_3 rfl (by decide) ?_
  refine e_istore 6 (ls' := [some (.ref d), some (.int (nI k)), some (.int (nI a)), some (.int (nI m)), some (.int (nI 1)), some (.int (nI 0))]) dX12_has_4 rfl (by decide) rfl ?_
  refine e_lc (ls' := [some (.ref d), some (.int (nI k)), some (.int (nI a)), some (.int (nI m)), some (.int (bI (plZ s k a 0))), some (.int (nI 0))]) rfl ?_
  exact ul_has hv he hk ha hm _ 0 (Nat.lt_succ_self _) (Nat.zero_le _)
set_option maxRecDepth 20000 in
set_option maxHeartbeats 2000000 in
theorem ul_may {d a x : Nat} {s : DS} {h : eH} (hv : rdV d s h) (he : okE s) (h8 : s.1 8 ≤ 8) (ha : a < 200000) (hx : x < 200000) : ∀ (n : Nat) (i : Nat), s.1 8 - i < n → i ≤ s.1 8 → EE mX12_may 0 0 0 0 (fun x9 h9 => x9 = some (.int (bI (mbg (dM s) (s.1 8) a x))) ∧ h9 = h) 5 [some (.ref d), some (.int (nI a)), some (.int (nI x)), some (.int (bI (mbg (dM s) i a x))), some (.int (nI i))] [] h 0 0 := by
  intro n
  induction n with
  | zero => intro i hlt hle; exact absurd hlt (by omega)
  | succ n ih =>
    intro i hlt hle
    have hv9 := hv
    obtain ⟨A, v0, v1, v2, v3, v4, v5, v6, v7, v8, v9, v10, v11, v12, v13, v14, v15, v16, v17, v18, v19, v20, v21⟩ := hv9
    refine e_iload 7 dX12_may_5 rfl rfl ?_
    refine e_aload_n 8 dX12_may_7 rfl rfl ?_
    refine e_get 11 dX12_may_8 rfl fl_X12_83_10 v0 rfl ?_
    refine e_icmp_ge 82 14 dX12_may_11 rfl rfl (fun c11 => ?_) (fun c11 => ?_)
    · have k11 := j_ge_t (a := i) (b := (s.1 8)) (by omega) (by omega) c11
      refine e_iload_n 83 dX12_may_82 rfl rfl ?_
      exact e_zret dX12_may_83 rfl (bI_01 _) (by omega) (by omega) (⟨by rw [show i = s.1 8 by omega], rfl⟩)
    · have k11 := j_ge_f (a := i) (b := (s.1 8)) (by omega) (by omega) c11
      have hl := okE_lm he (i := i) (by omega)
      refine e_iload_n 15 dX12_may_14 rfl rfl ?_
      refine e_aload_n 16 dX12_may_15 rfl rfl ?_
      refine e_get 19 dX12_may_16 rfl fl_X12_23_10 v0 rfl ?_
      refine e_iload 21 dX12_may_19 rfl rfl ?_
      refine v_iald 22 v5 (k := i) (x := (dM s (i * 4))) dX12_may_21 rfl (by simp only [tbl_len, kys_len, szs_len, List.length_reverse] <;> omega) (by omega) (tbl_at (by omega)) ?_
      refine e_icmp_lt 76 25 dX12_may_22 rfl rfl (fun c22 => ?_) (fun c22 => ?_)
      · have k22 := j_lt_t (a := a) (b := (dM s (i * 4))) (by omega) (by omega) c22
        refine e_lc (ls' := [some (.ref d), some (.int (nI a)), some (.int (nI x)), some (.int (bI (mbg (dM s) (i + 1) a x))), some (.int (nI i))]) (by rw [show mbg (dM s) (i + 1) a x = mbg (dM s) i a x by (rw [mbg_succ, show (!(decide (dM s (i * 4) ≤ a) && decide (a ≤ dM s (i * 4 + 1))) || (decide (dM s (i * 4 + 2) ≤ x) && decide (x ≤ dM s (i * 4 + 3)))) = true by ((try simp only [Bool.and_eq_true, Bool.or_eq_true, Bool.not_eq_true', Bool.and_eq_false_iff, Bool.or_eq_false_iff, Bool.not_eq_false', decide_eq_true_eq, decide_eq_false_iff_not, Bool.false_or, Bool.true_or, Bool.or_false, Bool.or_true, Bool.not_false, Bool.not_true, Bool.true_and, Bool.false_and, Bool.and_true, Bool.and_false, reduceCtorEq]) <;> (try omega)), Bool.and_true])]) ?_
        refine e_iinc 79 (v := (nI (i + 1))) (ls' := [some (.ref d), some (.int (nI a)), some (.int (nI x)), some (.int (bI (mbg (dM s) (i + 1) a x))), some (.int (nI (i + 1)))]) dX12_may_76 rfl rfl (nI_add i 1) (by decide) rfl ?_
        refine e_goto 5 dX12_may_79 rfl ?_
        refine e_wk [some (.ref d), some (.int (nI a)), some (.int (nI x)), some (.int (bI (mbg (dM s) (i + 1) a x))), some (.int (nI (i + 1)))] ⟨rfl, rfl, rfl, rfl, rfl, trivial⟩ ?_
        exact ih (i + 1) (by omega) (by omega)
      · have k22 := j_lt_f (a := a) (b := (dM s (i * 4))) (by omega) (by omega) c22
        refine e_iload_n 26 dX12_may_25 rfl rfl ?_
        refine e_aload_n 27 dX12_may_26 rfl rfl ?_
        refine e_get 30 dX12_may_27 rfl fl_X12_23_10 v0 rfl ?_
        refine e_iload 32 dX12_may_30 rfl rfl ?_
        refine v_iald 33 v5 (k := i) (x := (dM s (i * 4))) dX12_may_32 rfl (by simp only [tbl_len, kys_len, szs_len, List.length_reverse] <;> omega) (by omega) (tbl_at (by omega)) ?_
        refine e_isub 34 (v := (nI (a - (dM s (i * 4))))) dX12_may_33 rfl (pk_sub (by omega)) ?_
        refine e_aload_n 35 dX12_may_34 rfl rfl ?_
        refine e_get 38 dX12_may_35 rfl fl_X12_26_10 v0 rfl ?_
        refine e_iload 40 dX12_may_38 rfl rfl ?_
        refine v_iald 41 v6 (k := i) (x := (dM s (i * 4 + 1) + 1 - dM s (i * 4))) dX12_may_40 rfl (by simp only [tbl_len, kys_len, szs_len, List.length_reverse] <;> omega) (by omega) (tbl_at (by omega)) ?_
        refine e_icmp_ge 76 44 dX12_may_41 rfl rfl (fun c41 => ?_) (fun c41 => ?_)
        · have k41 := j_ge_t (a := (a - (dM s (i * 4)))) (b := (dM s (i * 4 + 1) + 1 - dM s (i * 4))) (by omega) (by omega) c41
          refine e_lc (ls' := [some (.ref d), some (.int (nI a)), some (.int (nI x)), some (.int (bI (mbg (dM s) (i + 1) a x))), some (.int (nI i))]) (by rw [show mbg (dM s) (i + 1) a x = mbg (dM s) i a x by (rw [mbg_succ, show (!(decide (dM s (i * 4) ≤ a) && decide (a ≤ dM s (i * 4 + 1))) || (decide (dM s (i * 4 + 2) ≤ x) && decide (x ≤ dM s (i * 4 + 3)))) = true by ((try simp only [Bool.and_eq_true, Bool.or_eq_true, Bool.not_eq_true', Bool.and_eq_false_iff, Bool.or_eq_false_iff, Bool.not_eq_false', decide_eq_true_eq, decide_eq_false_iff_not, Bool.false_or, Bool.true_or, Bool.or_false, Bool.or_true, Bool.not_false, Bool.not_true, Bool.true_and, Bool.false_and, Bool.and_true, Bool.and_false, reduceCtorEq]) <;> (try omega)), Bool.and_true])]) ?_
          refine e_iinc 79 (v := (nI (i + 1))) (ls' := [some (.ref d), some (.int (nI a)), some (.int (nI x)), some (.int (bI (mbg (dM s) (i + 1) a x))), some (.int (nI (i + 1)))]) dX12_may_76 rfl rfl (nI_add i 1) (by decide) rfl ?_
          refine e_goto 5 dX12_may_79 rfl ?_
          refine e_wk [some (.ref d), some (.int (nI a)), some (.int (nI x)), some (.int (bI (mbg (dM s) (i + 1) a x))), some (.int (nI (i + 1)))] ⟨rfl, rfl, rfl, rfl, rfl, trivial⟩ ?_
          exact ih (i + 1) (by omega) (by omega)
        · have k41 := j_ge_f (a := (a - (dM s (i * 4)))) (b := (dM s (i * 4 + 1) + 1 - dM s (i * 4))) (by omega) (by omega) c41
          refine e_iload_n 45 dX12_may_44 rfl rfl ?_
          refine e_if_eq 74 48 dX12_may_45 rfl rfl (fun c45 => ?_) (fun c45 => ?_)
          · have k45 := jb_eq_t c45
            refine e_iconst 75 (v := (nI 0)) dX12_may_74 rfl (by decide) ?_
            refine e_top (v' := (bI (mbg (dM s) (i + 1) a x))) (by rw [mbg_succ, k45]; rfl) ?_
            refine e_istore_n 76 (ls' := [some (.ref d), some (.int (nI a)), some (.int (nI x)), some (.int (bI (mbg (dM s) (i + 1) a x))), some (.int (nI i))]) dX12_may_75 rfl (by decide) rfl ?_
            refine e_iinc 79 (v := (nI (i + 1))) (ls' := [some (.ref d), some (.int (nI a)), some (.int (nI x)), some (.int (bI (mbg (dM s) (i + 1) a x))), some (.int (nI (i + 1)))]) dX12_may_76 rfl rfl (nI_add i 1) (by decide) rfl ?_
            refine e_goto 5 dX12_may_79 rfl ?_
            refine e_wk [some (.ref d), some (.int (nI a)), some (.int (nI x)), some (.int (bI (mbg (dM s) (i + 1) a x))), some (.int (nI (i + 1)))] ⟨rfl, rfl, rfl, rfl, rfl, trivial⟩ ?_
            exact ih (i + 1) (by omega) (by omega)
          · have k45 := jb_eq_f c45
            refine e_iload_n 49 dX12_may_48 rfl rfl ?_
            refine e_aload_n 50 dX12_may_49 rfl rfl ?_
            refine e_get 53 dX12_may_50 rfl fl_X12_29_10 v0 rfl ?_
            refine e_iload 55 dX12_may_53 rfl rfl ?_
            refine v_iald 56 v7 (k := i) (x := (dM s (i * 4 + 2))) dX12_may_55 rfl (by simp only [tbl_len, kys_len, szs_len, List.length_reverse] <;> omega) (by omega) (tbl_at (by omega)) ?_
            refine e_icmp_lt 74 59 dX12_may_56 rfl rfl (fun c56 => ?_) (fun c56 => ?_)
            · have k56 := j_lt_t (a := x) (b := (dM s (i * 4 + 2))) (by omega) (by omega) c56
              refine e_iconst 75 (v := (nI 0)) dX12_may_74 rfl (by decide) ?_
              refine e_top (v' := (bI (mbg (dM s) (i + 1) a x))) (by rw [show mbg (dM s) (i + 1) a x = false by (rw [mbg_succ, k45, Bool.true_and]; (try simp only [Bool.and_eq_true, Bool.or_eq_true, Bool.not_eq_true', Bool.and_eq_false_iff, Bool.or_eq_false_iff, Bool.not_eq_false', decide_eq_true_eq, decide_eq_false_iff_not, Bool.false_or, Bool.true_or, Bool.or_false, Bool.or_true, Bool.not_false, Bool.not_true, Bool.true_and, Bool.false_and, Bool.and_true, Bool.and_false, reduceCtorEq]) <;> (try omega))]; rfl) ?_
              refine e_istore_n 76 (ls' := [some (.ref d), some (.int (nI a)), some (.int (nI x)), some (.int (bI (mbg (dM s) (i + 1) a x))), some (.int (nI i))]) dX12_may_75 rfl (by decide) rfl ?_
              refine e_iinc 79 (v := (nI (i + 1))) (ls' := [some (.ref d), some (.int (nI a)), some (.int (nI x)), some (.int (bI (mbg (dM s) (i + 1) a x))), some (.int (nI (i + 1)))]) dX12_may_76 rfl rfl (nI_add i 1) (by decide) rfl ?_
              refine e_goto 5 dX12_may_79 rfl ?_
              refine e_wk [some (.ref d), some (.int (nI a)), some (.int (nI x)), some (.int (bI (mbg (dM s) (i + 1) a x))), some (.int (nI (i + 1)))] ⟨rfl, rfl, rfl, rfl, rfl, trivial⟩ ?_
              exact ih (i + 1) (by omega) (by omega)
            · have k56 := j_lt_f (a := x) (b := (dM s (i * 4 + 2))) (by omega) (by omega) c56
              refine e_iload_n 60 dX12_may_59 rfl rfl ?_
              refine e_aload_n 61 dX12_may_60 rfl rfl ?_
              refine e_get 64 dX12_may_61 rfl fl_X12_32_10 v0 rfl ?_
              refine e_iload 66 dX12_may_64 rfl rfl ?_
              refine v_iald 67 v8 (k := i) (x := (dM s (i * 4 + 3))) dX12_may_66 rfl (by simp only [tbl_len, kys_len, szs_len, List.length_reverse] <;> omega) (by omega) (tbl_at (by omega)) ?_
              refine e_icmp_gt 74 70 dX12_may_67 rfl rfl (fun c67 => ?_) (fun c67 => ?_)
              · have k67 := j_gt_t (a := x) (b := (dM s (i * 4 + 3))) (by omega) (by omega) c67
                refine e_iconst 75 (v := (nI 0)) dX12_may_74 rfl (by decide) ?_
                refine e_top (v' := (bI (mbg (dM s) (i + 1) a x))) (by rw [show mbg (dM s) (i + 1) a x = false by (rw [mbg_succ, k45, Bool.true_and]; (try simp only [Bool.and_eq_true, Bool.or_eq_true, Bool.not_eq_true', Bool.and_eq_false_iff, Bool.or_eq_false_iff, Bool.not_eq_false', decide_eq_true_eq, decide_eq_false_iff_not, Bool.false_or, Bool.true_or, Bool.or_false, Bool.or_true, Bool.not_false, Bool.not_true, Bool.true_and, Bool.false_and, Bool.and_true, Bool.and_false, reduceCtorEq]) <;> (try omega))]; rfl) ?_
                refine e_istore_n 76 (ls' := [some (.ref d), some (.int (nI a)), some (.int (nI x)), some (.int (bI (mbg (dM s) (i + 1) a x))), some (.int (nI i))]) dX12_may_75 rfl (by decide) rfl ?_
                refine e_iinc 79 (v := (nI (i + 1))) (ls' := [some (.ref d), some (.int (nI a)), some (.int (nI x)), some (.int (bI (mbg (dM s) (i + 1) a x))), some (.int (nI (i + 1)))]) dX12_may_76 rfl rfl (nI_add i 1) (by decide) rfl ?_
                refine e_goto 5 dX12_may_79 rfl ?_
                refine e_wk [some (.ref d), some (.int (nI a)), some (.int (nI x)), some (.int (bI (mbg (dM s) (i + 1) a x))), some (.int (nI (i + 1)))] ⟨rfl, rfl, rfl, rfl, rfl, trivial⟩ ?_
                exact ih (i + 1) (by omega) (by omega)
              · have k67 := j_gt_f (a := x) (b := (dM s (i * 4 + 3))) (by omega) (by omega) c67
                refine e_iconst 71 (v := (nI 1)) dX12_may_70 rfl (by decide) ?_
                refine e_goto 75 dX12_may_71 rfl ?_
                refine e_top (v' := (bI (mbg (dM s) (i + 1) a x))) (by rw [show mbg (dM s) (i + 1) a x = true by (rw [mbg_succ, k45, Bool.true_and]; (try simp only [Bool.and_eq_true, Bool.or_eq_true, Bool.not_eq_true', Bool.and_eq_false_iff, Bool.or_eq_false_iff, Bool.not_eq_false', decide_eq_true_eq, decide_eq_false_iff_not, Bool.false_or, Bool.true_or, Bool.or_false, Bool.or_true, Bool.not_false, Bool.not_true, Bool.true_and, Bool.false_and, Bool.and_true, Bool.and_false, reduceCtorEq]) <;> (try omega))]; rfl) ?_
                refine e_istore_n 76 (ls' := [some (.ref d), some (.int (nI a)), some (.int (nI x)), some (.int (bI (mbg (dM s) (i + 1) a x))), some (.int (nI i))]) dX12_may_75 rfl (by decide) rfl ?_
                refine e_iinc 79 (v := (nI (i + 1))) (ls' := [some (.ref d), some (.int (nI a)), some (.int (nI x)), some (.int (bI (mbg (dM s) (i + 1) a x))), some (.int (nI (i + 1)))]) dX12_may_76 rfl rfl (nI_add i 1) (by decide) rfl ?_
                refine e_goto 5 dX12_may_79 rfl ?_
                refine e_wk [some (.ref d), some (.int (nI a)), some (.int (nI x)), some (.int (bI (mbg (dM s) (i + 1) a x))), some (.int (nI (i + 1)))] ⟨rfl, rfl, rfl, rfl, rfl, trivial⟩ ?_
                exact ih (i + 1) (by omega) (by omega)
set_option maxRecDepth 20000 in
set_option maxHeartbeats 2000000 in
theorem u_X12_may {d a x : Nat} {s : DS} {h : eH} (hv : rdV d s h) (he : okE s) (h8 : s.1 8 ≤ 8) (ha : a < 200000) (hx : x < 200000) : PC mX12_may [.ref d, .int (nI a), .int (nI x)] h (some (.int (bI (mbg (dM s) (s.1 8) a x)))) 0 0 := by
  refine PC.mk 2 (ls := [some (.ref d), some (.int (nI a)), some (.int (nI x)), none, none]) rfl rfl (Nat.le_of_ble_eq_true rfl) rfl ?_
  refine e_iconst 1 (v := (nI 1)) dX12_may_0 rfl (by decide) ?_
  refine e_istore_n 2 (ls' := [some (.ref d), some (.int (nI a)), some (.int (nI x)), some (.int (nI 1)), none]) dX12_may_1 rfl (by decide) rfl ?_
  refine e_iconst 3 (v := (nI 0)) dX12_may_2 rfl (by decide) ?_
  refine e_istore 5 (ls' := [some (.ref d), some (.int (nI a)), some (.int (nI x)), some (.int (nI 1)), some (.int (nI 0))]) dX12_may_3 rfl (by decide) rfl ?_
  refine e_lc (ls' := [some (.ref d), some (.int (nI a)), some (.int (nI x)), some (.int (bI (mbg (dM s) 0 a x))), some (.int (nI 0))]) rfl ?_
  exact ul_may hv he h8 ha hx _ 0 (Nat.lt_succ_self _) (Nat.zero_le _)
set_option maxRecDepth 20000 in
set_option maxHeartbeats 2000000 in
theorem ul_fileOf {d : Nat} {x : Int32} {s : DS} {h : eH} (hv : rdV d s h) (he : okE s) : ∀ (n : Nat) (i : Nat), (dS s 0).length - i < n → i ≤ (dS s 0).length → (∀ j, j < i → nI (keM (dS s 0) j) ≠ x) → EE mX12_fileOf 0 0 0 0 (fun x9 h9 => x9 = some (.int (oI (ixM (dS s 0) x))) ∧ h9 = h) 2 [some (.ref d), some (.int x), some (.int (nI i))] [] h 0 0 := by
  intro n
  induction n with
  | zero => intro i hlt hle hn; exact absurd hlt (by omega)
  | succ n ih =>
    intro i hlt hle hn
    have hv9 := hv
    obtain ⟨A, v0, v1, v2, v3, v4, v5, v6, v7, v8, v9, v10, v11, v12, v13, v14, v15, v16, v17, v18, v19, v20, v21⟩ := hv9
    have hs := okE_sh he
    have hsl := shO_le hs.1
    have hk := shO_at hs.1 (by decide) i
    refine e_iload_n 3 dX12_fileOf_2 rfl rfl ?_
    refine e_aload_n 4 dX12_fileOf_3 rfl rfl ?_
    refine e_get 7 dX12_fileOf_4 rfl fl_X12_86_10 v0 rfl ?_
    refine e_icmp_ge 28 10 dX12_fileOf_7 rfl rfl (fun c7 => ?_) (fun c7 => ?_)
    · have k7 := j_ge_t (a := i) (b := (dS s 0).length) (by omega) (by omega) c7
      refine e_iconst 29 (v := (-1)) dX12_fileOf_28 rfl (by decide) ?_
      exact e_iret dX12_fileOf_29 rfl (by omega) (by omega) (⟨by rw [ixM_f (fun j hj => hn j (by omega))]; rfl, rfl⟩)
    · have k7 := j_ge_f (a := i) (b := (dS s 0).length) (by omega) (by omega) c7
      refine e_aload_n 11 dX12_fileOf_10 rfl rfl ?_
      refine e_get 14 dX12_fileOf_11 rfl fl_X12_35_10 v0 rfl ?_
      refine e_iload_n 15 dX12_fileOf_14 rfl rfl ?_
      refine v_iald 16 v9 (k := i) (x := (keM (dS s 0) i)) dX12_fileOf_15 rfl (by simp only [kys_len, sortT_len] <;> omega) (by omega) kys_at ?_
      refine e_iload_n 17 dX12_fileOf_16 rfl rfl ?_
      refine e_icmp_ne 22 20 dX12_fileOf_17 rfl rfl (fun c17 => ?_) (fun c17 => ?_)
      · refine e_iinc 25 (v := (nI (i + 1))) (ls' := [some (.ref d), some (.int x), some (.int (nI (i + 1)))]) dX12_fileOf_22 rfl rfl (nI_add i 1) (by decide) rfl ?_
        refine e_goto 2 dX12_fileOf_25 rfl ?_
        refine e_wk [some (.ref d), some (.int x), some (.int (nI (i + 1)))] ⟨rfl, rfl, rfl, trivial⟩ ?_
        exact ih (i + 1) (by omega) (by omega) (fun j hj => (Nat.lt_succ_iff_lt_or_eq.mp hj).elim (hn j) (fun e => by rw [e]; exact c17))
      · refine e_iload_n 21 dX12_fileOf_20 rfl rfl ?_
        exact e_iret dX12_fileOf_21 rfl (by omega) (by omega) (⟨by rw [ixM_t (by omega) c17 hn]; rfl, rfl⟩)
set_option maxRecDepth 20000 in
set_option maxHeartbeats 2000000 in
theorem u_X12_fileOf {d : Nat} {x : Int32} {s : DS} {h : eH} (hv : rdV d s h) (he : okE s) : PC mX12_fileOf [.ref d, .int x] h (some (.int (oI (ixM (dS s 0) x)))) 0 0 := by
  refine PC.mk 1 (ls := [some (.ref d), some (.int x), none]) rfl rfl (Nat.le_of_ble_eq_true rfl) rfl ?_
  refine e_iconst 1 (v := (nI 0)) dX12_fileOf_0 rfl (by decide) ?_
  refine e_istore_n 2 (ls' := [some (.ref d), some (.int x), some (.int (nI 0))]) dX12_fileOf_1 rfl (by decide) rfl ?_
  exact ul_fileOf hv he _ 0 (Nat.lt_succ_self _) (Nat.zero_le _) (fun j hj => absurd hj (Nat.not_lt_zero j))
set_option maxRecDepth 20000 in
set_option maxHeartbeats 2000000 in
theorem ul_queueOf {d : Nat} {x : Int32} {s : DS} {h : eH} (hv : rdV d s h) (he : okE s) : ∀ (n : Nat) (i : Nat), (dS s 1).length - i < n → i ≤ (dS s 1).length → (∀ j, j < i → nI (keM (dS s 1) j) ≠ x) → EE mX12_queueOf 0 0 0 0 (fun x9 h9 => x9 = some (.int (oI (ixM (dS s 1) x))) ∧ h9 = h) 2 [some (.ref d), some (.int x), some (.int (nI i))] [] h 0 0 := by
  intro n
  induction n with
  | zero => intro i hlt hle hn; exact absurd hlt (by omega)
  | succ n ih =>
    intro i hlt hle hn
    have hv9 := hv
    obtain ⟨A, v0, v1, v2, v3, v4, v5, v6, v7, v8, v9, v10, v11, v12, v13, v14, v15, v16, v17, v18, v19, v20, v21⟩ := hv9
    have hs := okE_sh he
    have hsl := shO_le hs.2.1
    have hk := shO_at hs.2.1 (by decide) i
    refine e_iload_n 3 dX12_queueOf_2 rfl rfl ?_
    refine e_aload_n 4 dX12_queueOf_3 rfl rfl ?_
    refine e_get 7 dX12_queueOf_4 rfl fl_X12_89_10 v0 rfl ?_
    refine e_icmp_ge 28 10 dX12_queueOf_7 rfl rfl (fun c7 => ?_) (fun c7 => ?_)
    · have k7 := j_ge_t (a := i) (b := (dS s 1).length) (by omega) (by omega) c7
      refine e_iconst 29 (v := (-1)) dX12_queueOf_28 rfl (by decide) ?_
      exact e_iret dX12_queueOf_29 rfl (by omega) (by omega) (⟨by rw [ixM_f (fun j hj => hn j (by omega))]; rfl, rfl⟩)
    · have k7 := j_ge_f (a := i) (b := (dS s 1).length) (by omega) (by omega) c7
      refine e_aload_n 11 dX12_queueOf_10 rfl rfl ?_
      refine e_get 14 dX12_queueOf_11 rfl fl_X12_44_10 v0 rfl ?_
      refine e_iload_n 15 dX12_queueOf_14 rfl rfl ?_
      refine v_iald 16 v12 (k := i) (x := (keM (dS s 1) i)) dX12_queueOf_15 rfl (by simp only [kys_len, sortT_len] <;> omega) (by omega) kys_at ?_
      refine e_iload_n 17 dX12_queueOf_16 rfl rfl ?_
      refine e_icmp_ne 22 20 dX12_queueOf_17 rfl rfl (fun c17 => ?_) (fun c17 => ?_)
      · refine e_iinc 25 (v := (nI (i + 1))) (ls' := [some (.ref d), some (.int x), some (.int (nI (i + 1)))]) dX12_queueOf_22 rfl rfl (nI_add i 1) (by decide) rfl ?_
        refine e_goto 2 dX12_queueOf_25 rfl ?_
        refine e_wk [some (.ref d), some (.int x), some (.int (nI (i + 1)))] ⟨rfl, rfl, rfl, trivial⟩ ?_
        exact ih (i + 1) (by omega) (by omega) (fun j hj => (Nat.lt_succ_iff_lt_or_eq.mp hj).elim (hn j) (fun e => by rw [e]; exact c17))
      · refine e_iload_n 21 dX12_queueOf_20 rfl rfl ?_
        exact e_iret dX12_queueOf_21 rfl (by omega) (by omega) (⟨by rw [ixM_t (by omega) c17 hn]; rfl, rfl⟩)
set_option maxRecDepth 20000 in
set_option maxHeartbeats 2000000 in
theorem u_X12_queueOf {d : Nat} {x : Int32} {s : DS} {h : eH} (hv : rdV d s h) (he : okE s) : PC mX12_queueOf [.ref d, .int x] h (some (.int (oI (ixM (dS s 1) x)))) 0 0 := by
  refine PC.mk 1 (ls := [some (.ref d), some (.int x), none]) rfl rfl (Nat.le_of_ble_eq_true rfl) rfl ?_
  refine e_iconst 1 (v := (nI 0)) dX12_queueOf_0 rfl (by decide) ?_
  refine e_istore_n 2 (ls' := [some (.ref d), some (.int x), some (.int (nI 0))]) dX12_queueOf_1 rfl (by decide) rfl ?_
  exact ul_queueOf hv he _ 0 (Nat.lt_succ_self _) (Nat.zero_le _) (fun j hj => absurd hj (Nat.not_lt_zero j))
set_option maxRecDepth 20000 in
set_option maxHeartbeats 2000000 in
theorem ul_textOf {d : Nat} {x : Int32} {s : DS} {h : eH} (hv : rdV d s h) (he : okE s) : ∀ (n : Nat) (i : Nat), (dS s 2).length - i < n → i ≤ (dS s 2).length → (∀ j, j < i → nI (keM (sortT (dS s 2)) j) ≠ x) → EE mX12_textOf 0 0 0 0 (fun x9 h9 => x9 = some (.int (oI (ixM (sortT (dS s 2)) x))) ∧ h9 = h) 2 [some (.ref d), some (.int x), some (.int (nI i))] [] h 0 0 := by
  intro n
  induction n with
  | zero => intro i hlt hle hn; exact absurd hlt (by omega)
  | succ n ih =>
    intro i hlt hle hn
    have hv9 := hv
    obtain ⟨A, v0, v1, v2, v3, v4, v5, v6, v7, v8, v9, v10, v11, v12, v13, v14, v15, v16, v17, v18, v19, v20, v21⟩ := hv9
    have hs := okE_sh he
    have hsl := shO_le hs.2.2
    have hk := shO_at (shO_sort hs.2.2) (by decide) i
    refine e_iload_n 3 dX12_textOf_2 rfl rfl ?_
    refine e_aload_n 4 dX12_textOf_3 rfl rfl ?_
    refine e_get 7 dX12_textOf_4 rfl fl_X12_92_10 v0 rfl ?_
    refine e_icmp_ge 28 10 dX12_textOf_7 rfl rfl (fun c7 => ?_) (fun c7 => ?_)
    · have k7 := j_ge_t (a := i) (b := (dS s 2).length) (by omega) (by omega) c7
      refine e_iconst 29 (v := (-1)) dX12_textOf_28 rfl (by decide) ?_
      exact e_iret dX12_textOf_29 rfl (by omega) (by omega) (⟨by rw [ixM_f (fun j hj => hn j (by rw [sortT_len] at hj; omega))]; rfl, rfl⟩)
    · have k7 := j_ge_f (a := i) (b := (dS s 2).length) (by omega) (by omega) c7
      refine e_aload_n 11 dX12_textOf_10 rfl rfl ?_
      refine e_get 14 dX12_textOf_11 rfl fl_X12_53_10 v0 rfl ?_
      refine e_iload_n 15 dX12_textOf_14 rfl rfl ?_
      refine v_iald 16 v15 (k := i) (x := (keM (sortT (dS s 2)) i)) dX12_textOf_15 rfl (by simp only [kys_len, sortT_len] <;> omega) (by omega) kys_at ?_
      refine e_iload_n 17 dX12_textOf_16 rfl rfl ?_
      refine e_icmp_ne 22 20 dX12_textOf_17 rfl rfl (fun c17 => ?_) (fun c17 => ?_)
      · refine e_iinc 25 (v := (nI (i + 1))) (ls' := [some (.ref d), some (.int x), some (.int (nI (i + 1)))]) dX12_textOf_22 rfl rfl (nI_add i 1) (by decide) rfl ?_
        refine e_goto 2 dX12_textOf_25 rfl ?_
        refine e_wk [some (.ref d), some (.int x), some (.int (nI (i + 1)))] ⟨rfl, rfl, rfl, trivial⟩ ?_
        exact ih (i + 1) (by omega) (by omega) (fun j hj => (Nat.lt_succ_iff_lt_or_eq.mp hj).elim (hn j) (fun e => by rw [e]; exact c17))
      · refine e_iload_n 21 dX12_textOf_20 rfl rfl ?_
        exact e_iret dX12_textOf_21 rfl (by omega) (by omega) (⟨by rw [ixM_t (by rw [sortT_len]; omega) c17 hn]; rfl, rfl⟩)
set_option maxRecDepth 20000 in
set_option maxHeartbeats 2000000 in
theorem u_X12_textOf {d : Nat} {x : Int32} {s : DS} {h : eH} (hv : rdV d s h) (he : okE s) : PC mX12_textOf [.ref d, .int x] h (some (.int (oI (ixM (sortT (dS s 2)) x)))) 0 0 := by
  refine PC.mk 1 (ls := [some (.ref d), some (.int x), none]) rfl rfl (Nat.le_of_ble_eq_true rfl) rfl ?_
  refine e_iconst 1 (v := (nI 0)) dX12_textOf_0 rfl (by decide) ?_
  refine e_istore_n 2 (ls' := [some (.ref d), some (.int x), some (.int (nI 0))]) dX12_textOf_1 rfl (by decide) rfl ?_
  exact ul_textOf hv he _ 0 (Nat.lt_succ_self _) (Nat.zero_le _) (fun j hj => absurd hj (Nat.not_lt_zero j))
