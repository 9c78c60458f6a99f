set_option maxRecDepth 20000 in
set_option maxHeartbeats 2000000 in
theorem l_X4_sumOf_b {h : eH} {a : Nat} {m i : Nat} {Q : Option Value → eH → Prop} : ∀ (n : Nat) (b c1 t : Nat), 8 - b < n → b + t = 8 → c1 < 65536 → EE mX4_sumOf 0 0 0 0 Q 63 [some (.ref a), some (.int (nI m)), some (.int (nI (cr8 t c1))), some (.int (nI i)), some (.int (nI 8))] [] h 0 0 → EE mX4_sumOf 0 0 0 0 (Q) 30 [some (.ref a), some (.int (nI m)), some (.int (nI c1)), some (.int (nI i)), some (.int (nI b))] [] h 0 0 := by
  intro n
  induction n with
  | zero => intro b c1 t hlt hb hc1 kk; exact absurd hlt (by omega)
  | succ n ih =>
    intro b c1 t hlt hb hc1 kk
    refine e_iload 32 dX4_sumOf_30 rfl rfl ?_
    refine e_bipush 34 (v := (nI 8)) dX4_sumOf_32 rfl (by decide) ?_
    refine e_icmp_ge 63 37 dX4_sumOf_34 rfl rfl (fun c34 => ?_) (fun c34 => ?_)
    · have k34 := j_ge_t (a := b) (b := 8) (by omega) (by omega) c34
      obtain rfl : t = 0 := by omega
      obtain rfl : b = 8 := by omega
      exact kk
    · have k34 := j_ge_f (a := b) (b := 8) (by omega) (by omega) c34
      refine e_iload_n 38 dX4_sumOf_37 rfl rfl ?_
      refine e_iconst 39 (v := (nI 1)) dX4_sumOf_38 rfl (by decide) ?_
      refine e_iand 40 (v := (nI (c1 % 2 ^ 1))) dX4_sumOf_39 rfl (pk_andN (by omega) 1 (by decide)) ?_
      refine e_iconst 41 (v := (nI 1)) dX4_sumOf_40 rfl (by decide) ?_
      refine e_icmp_ne 53 44 dX4_sumOf_41 rfl rfl (fun c41 => ?_) (fun c41 => ?_)
      · have k41 := j_ne_t (a := (c1 % 2 ^ 1)) (b := 1) (by omega) (by omega) c41
        refine e_iload_n 54 dX4_sumOf_53 rfl rfl ?_
        refine e_iconst 55 (v := (nI 1)) dX4_sumOf_54 rfl (by decide) ?_
        refine e_ishr 56 (v := (nI (cr1 c1))) dX4_sumOf_55 rfl ((pk_shrN (by omega) _ 1 (by decide)).trans (by unfold cr1; rw [if_neg (by omega)])) ?_
        refine e_istore_n 57 (ls' := [some (.ref a), some (.int (nI m)), some (.int (nI (cr1 c1))), some (.int (nI i)), some (.int (nI b))]) dX4_sumOf_56 rfl (by decide) rfl ?_
        refine e_iinc 60 (v := (nI (b + 1))) (ls' := [some (.ref a), some (.int (nI m)), some (.int (nI (cr1 c1))), some (.int (nI i)), some (.int (nI (b + 1)))]) dX4_sumOf_57 rfl rfl (nI_add b 1) (by decide) rfl ?_
        refine e_goto 30 dX4_sumOf_60 rfl ?_
        obtain ⟨t, rfl⟩ : ∃ t1, t = t1 + 1 := ⟨t - 1, by omega⟩
        exact ih (b + 1) (cr1 c1) t (by omega) (by omega) (cr1_lt hc1) kk
      · have k41 := j_ne_f (a := (c1 % 2 ^ 1)) (b := 1) (by omega) (by omega) c41
        refine e_iload_n 45 dX4_sumOf_44 rfl rfl ?_
        refine e_iconst 46 (v := (nI 1)) dX4_sumOf_45 rfl (by decide) ?_
        refine e_ishr 47 (v := (nI (c1 / 2 ^ 1))) dX4_sumOf_46 rfl (pk_shrN (by omega) _ 1 (by decide)) ?_
        refine e_ldc 49 (v := (nI 40961)) dX4_sumOf_47 rfl cn_X4_33 ?_
        refine e_ixor 50 (v := (nI (cr1 c1))) dX4_sumOf_49 rfl (by rw [nx_xor]; unfold cr1; rw [if_pos (by omega)]) ?_
        refine e_goto 56 dX4_sumOf_50 rfl ?_
        refine e_istore_n 57 (ls' := [some (.ref a), some (.int (nI m)), some (.int (nI (cr1 c1))), some (.int (nI i)), some (.int (nI b))]) dX4_sumOf_56 rfl (by decide) rfl ?_
        refine e_iinc 60 (v := (nI (b + 1))) (ls' := [some (.ref a), some (.int (nI m)), some (.int (nI (cr1 c1))), some (.int (nI i)), some (.int (nI (b + 1)))]) dX4_sumOf_57 rfl rfl (nI_add b 1) (by decide) rfl ?_
        refine e_goto 30 dX4_sumOf_60 rfl ?_
        obtain ⟨t, rfl⟩ : ∃ t1, t = t1 + 1 := ⟨t - 1, by omega⟩
        exact ih (b + 1) (cr1 c1) t (by omega) (by omega) (cr1_lt hc1) kk
set_option maxRecDepth 20000 in
set_option maxHeartbeats 2000000 in
theorem l_X4_sumOf {h : eH} {a c cap : Nat} {r : List Nat} (hr : rwAt h a c cap r) (hb : ∀ x ∈ r, x < 65536) {m : Nat} (hm : m < 100000) : ∀ (n : Nat) (i : Nat), m - i < n → i ≤ m → EE mX4_sumOf 0 0 0 0 (fun x h' => x = some (.int (nI (crs (r.take m)))) ∧ h' = h) 5 [some (.ref a), some (.int (nI m)), some (.int (nI (crs (r.take i)))), some (.int (nI i)), none] [] h 0 0 := by
  intro n
  induction n with
  | zero => intro i hlt hi; exact absurd hlt (by omega)
  | succ n ih =>
    intro i hlt hi
    obtain ⟨f, ha, hc, hn, hcap, hf⟩ := id hr
    refine e_iload_n 6 dX4_sumOf_5 rfl rfl ?_
    refine e_iload_n 7 dX4_sumOf_6 rfl rfl ?_
    refine e_icmp_ge 69 10 dX4_sumOf_7 rfl rfl (fun c7 => ?_) (fun c7 => ?_)
    · have k7 := j_ge_t (a := i) (b := m) (by omega) (by omega) c7
      refine e_iload_n 70 dX4_sumOf_69 rfl rfl ?_
      exact e_iret dX4_sumOf_70 rfl (by omega) (by omega) (⟨by rw [show r.take i = r.take m from by first | rw [show i = m by omega] | rw [List.take_of_length_le (by omega), List.take_of_length_le (by omega)]], rfl⟩)
    · have k7 := j_ge_f (a := i) (b := m) (by omega) (by omega) c7
      refine e_iload_n 11 dX4_sumOf_10 rfl rfl ?_
      refine e_aload_n 12 dX4_sumOf_11 rfl rfl ?_
      refine e_get 15 dX4_sumOf_12 rfl fl_X4_15_4 ha rfl ?_
      refine e_icmp_ge 69 18 dX4_sumOf_15 rfl rfl (fun c15 => ?_) (fun c15 => ?_)
      · have k15 := j_ge_t (a := i) (b := r.length) (by omega) (by omega) c15
        refine e_iload_n 70 dX4_sumOf_69 rfl rfl ?_
        exact e_iret dX4_sumOf_70 rfl (by omega) (by omega) (⟨by rw [show r.take i = r.take m from by first | rw [show i = m by omega] | rw [List.take_of_length_le (by omega), List.take_of_length_le (by omega)]], rfl⟩)
      · have k15 := j_ge_f (a := i) (b := r.length) (by omega) (by omega) c15
        refine e_iload_n 19 dX4_sumOf_18 rfl rfl ?_
        refine e_aload_n 20 dX4_sumOf_19 rfl rfl ?_
        refine e_get 23 dX4_sumOf_20 rfl fl_X4_9_4 ha rfl ?_
        refine e_iload_n 24 dX4_sumOf_23 rfl rfl ?_
        refine e_iald 25 (v := (nI (r.getD i 0))) dX4_sumOf_24 rfl hc (vp_in_nI (by omega) (by omega)) ((congrArg f (nI_clamp (by omega))).trans (hf _ (by omega))) ?_
        refine e_ixor 26 (v := (nI (crs (r.take i) ^^^ r.getD i 0))) dX4_sumOf_25 rfl (nx_xor _ _) ?_
        refine e_istore_n 27 (ls' := [some (.ref a), some (.int (nI m)), some (.int (nI (crs (r.take i) ^^^ r.getD i 0))), some (.int (nI i)), none]) dX4_sumOf_26 rfl (by decide) rfl ?_
        refine e_iconst 28 (v := (nI 0)) dX4_sumOf_27 rfl (by decide) ?_
        refine e_istore 30 (ls' := [some (.ref a), some (.int (nI m)), some (.int (nI (crs (r.take i) ^^^ r.getD i 0))), some (.int (nI i)), some (.int (nI 0))]) dX4_sumOf_28 rfl (by decide) rfl ?_
        refine l_X4_sumOf_b 9 0 _ 8 (by omega) (by omega) (xor16 (crs_lt (fun x hx => hb x (List.mem_of_mem_take hx))) (gd_lt hb (by decide))) ?_
        rw [← crs_take (by omega)]
        refine e_iinc 66 (v := (nI (i + 1))) (ls' := [some (.ref a), some (.int (nI m)), some (.int (nI (crs (r.take (i + 1))))), some (.int (nI (i + 1))), some (.int (nI 8))]) dX4_sumOf_63 rfl rfl (nI_add i 1) (by decide) rfl ?_
        refine e_goto 5 dX4_sumOf_66 rfl ?_
        refine e_wk [some (.ref a), some (.int (nI m)), some (.int (nI (crs (r.take (i + 1))))), some (.int (nI (i + 1))), none] ⟨rfl, rfl, rfl, rfl, trivial⟩ ?_
        exact ih (i + 1) (by omega) (by omega)
set_option maxRecDepth 20000 in
set_option maxHeartbeats 2000000 in
/-- sumOf(m): the SUM of the first m -/
theorem c_X4_sumOf {h : eH} {a c cap : Nat} {r : List Nat} (hr : rwAt h a c cap r) (hb : ∀ x ∈ r, x < 65536) {m : Nat} (hm : m < 100000) : Ct mX4_sumOf [.ref a, .int (nI m)] h (fun x h' => x = some (.int (nI (crs (r.take m)))) ∧ h' = h) 0 0 0 0 := by
  refine Ct.mk 3 (ls := [some (.ref a), some (.int (nI m)), none, none, none]) rfl rfl (Nat.le_of_ble_eq_true rfl) rfl ?_
  refine e_ldc 2 (v := (nI 65535)) dX4_sumOf_0 rfl cn_X4_32 ?_
  refine e_istore_n 3 (ls' := [some (.ref a), some (.int (nI m)), some (.int (nI 65535)), none, none]) dX4_sumOf_2 rfl (by decide) rfl ?_
  refine e_iconst 4 (v := (nI 0)) dX4_sumOf_3 rfl (by decide) ?_
  refine e_istore_n 5 (ls' := [some (.ref a), some (.int (nI m)), some (.int (nI 65535)), some (.int (nI 0)), none]) dX4_sumOf_4 rfl (by decide) rfl ?_
  exact l_X4_sumOf hr hb hm (m + 1) 0 (by omega) (by omega)
set_option maxRecDepth 20000 in
set_option maxHeartbeats 2000000 in
theorem l_X4_becomeZeros {h : eH} {a c cap m fr lo : Nat} {k0 : Value} (hm : m ≤ cap) (hcap : cap < 65536) : ∀ (n : Nat) (i : Nat) (hh : eH) (f : Nat → Int32), m - i < n → i ≤ m → hh a = some (.inr (4, [.ref c, .int (nI m)])) → hh c = some (.inl (0, cap, .inl f)) → (∀ j, j < i → f j = 0) → sm h hh [a, c] → EE mX4_becomeZeros fr lo 0 0 (fun x h' => x = none ∧ rwAt h' a c cap (List.replicate m 0) ∧ sm h h' [a, c]) 19 [some (.ref a), none, some (.int (nI i))] [] hh 0 0 := by
  intro n
  induction n with
  | zero => intro i hh f hlt hi ha hc hz hs; exact absurd hlt (by omega)
  | succ n ih =>
    intro i hh f hlt hi ha hc hz hs
    refine e_iload_n 20 dX4_becomeZeros_19 rfl rfl ?_
    refine e_aload_n 21 dX4_becomeZeros_20 rfl rfl ?_
    refine e_get 24 dX4_becomeZeros_21 rfl fl_X4_15_4 ha rfl ?_
    refine e_icmp_ge 40 27 dX4_becomeZeros_24 rfl rfl (fun c24 => ?_) (fun c24 => ?_)
    · have k24 := j_ge_t (a := i) (b := m) (by omega) (by omega) c24
      exact e_vret dX4_becomeZeros_40 rfl (by omega) (by omega) (⟨rfl, ⟨f, by rw [List.length_replicate]; exact ha, hc, by rw [List.length_replicate]; exact hm, hcap, fun j hj => by rw [List.length_replicate] at hj; rw [hz j (by omega)]; simp [List.getD, hj]; rfl⟩, hs⟩)
    · have k24 := j_ge_f (a := i) (b := m) (by omega) (by omega) c24
      refine e_aload_n 28 dX4_becomeZeros_27 rfl rfl ?_
      refine e_get 31 dX4_becomeZeros_28 rfl fl_X4_9_4 ha rfl ?_
      refine e_iload_n 32 dX4_becomeZeros_31 rfl rfl ?_
      refine e_iconst 33 (v := (nI 0)) dX4_becomeZeros_32 rfl (by decide) ?_
      refine e_iast' 34 (k := i) dX4_becomeZeros_33 rfl hc (vp_in_nI (by omega) (by omega)) (nI_clamp (by omega)) ?_
      refine e_iinc 37 (v := (nI (i + 1))) (ls' := [some (.ref a), none, some (.int (nI (i + 1)))]) dX4_becomeZeros_34 rfl rfl (nI_add i 1) (by decide) rfl ?_
      refine e_goto 19 dX4_becomeZeros_37 rfl ?_
      exact ih (i + 1) _ (upd f i (nI 0)) (by omega) (by omega) ((e_up_n (e_ne_oa ha hc)).trans ha) e_up_s (upd_zero hz) (hs.up (by simp))
set_option maxRecDepth 20000 in
set_option maxHeartbeats 2000000 in
/-- becomeZeros(m) -/
theorem c_X4_becomeZeros {h : eH} {a c cap : Nat} {r : List Nat} (hr : rwAt h a c cap r) {m : Nat} (hm : m ≤ cap) : Ct mX4_becomeZeros [.ref a, .int (nI m)] h (fun x h' => x = none ∧ rwAt h' a c cap (List.replicate m 0) ∧ sm h h' [a, c]) 1 21 0 0 := by
  obtain ⟨f, ha, hc, hn, hcap, hf⟩ := id hr
  refine Ct.mk 1 (ls := [some (.ref a), some (.int (nI m)), none]) rfl rfl (Nat.le_of_ble_eq_true rfl) rfl ?_
  refine e_aload_n 1 dX4_becomeZeros_0 rfl rfl ?_
  refine e_iconst 2 (v := (nI 0)) dX4_becomeZeros_1 rfl (by decide) ?_
  refine e_iload_n 3 dX4_becomeZeros_2 rfl rfl ?_
  refine e_aload_n 4 dX4_becomeZeros_3 rfl rfl ?_
  refine e_get 7 dX4_becomeZeros_4 rfl fl_X4_9_4 ha rfl ?_
  refine e_alen 8 (v := (nI cap)) dX4_becomeZeros_7 rfl hc rfl rfl ?_
  refine e_min 11 (v := (nI m)) dX4_becomeZeros_8 rfl mi_X4_19 (by decide) (Nat.le_of_ble_eq_true rfl) (by omega) (if_neg (nI_nlt (by omega) (by omega))) ?_
  refine e_max 14 (v := (nI m)) dX4_becomeZeros_11 rfl ma_X4_25 (by decide) (Nat.le_of_ble_eq_true rfl) (by omega) (max0 (by omega)) ?_
  refine e_put 17 (fs' := [.ref c, .int (nI m)]) dX4_becomeZeros_14 rfl fp_X4_15_4 (Or.inl rfl) ha (Nat.le_of_ble_eq_true rfl) rfl rfl rfl ?_
  refine e_iconst 18 (v := (nI 0)) dX4_becomeZeros_17 rfl (by decide) ?_
  refine e_istore_n 19 (ls' := [some (.ref a), some (.int (nI m)), some (.int (nI 0))]) dX4_becomeZeros_18 rfl (by decide) rfl ?_
  refine e_wk [some (.ref a), none, some (.int (nI 0))] ⟨rfl, rfl, trivial⟩ ?_
  exact l_X4_becomeZeros (k0 := .null) hm hcap (m + 1) 0 _ f (by omega) (by omega) e_up_s ((e_up_n (e_ne_ao hc ha)).trans hc) (fun j hj => absurd hj (Nat.not_lt_zero _)) (sm.rf.up (by simp))
