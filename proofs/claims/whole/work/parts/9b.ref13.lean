/-! the reference: reading bits and words -/
def rbG (vs : List Nat) (fr f t c j : Nat) : List Nat := [f] ++ [(c + 7) / 8] ++ (List.range j).map (fun i => bts vs (t + 8 * i - fr) (min (c - 8 * i) 8))
theorem rbG_R {q vs : List Nat} {fr j : Nat} : rbG vs fr (q.getD 0 0) (wd q 1) (wd q 3) j = rbR q vs fr j := rfl
theorem rbG_succ {vs : List Nat} {fr f t c j : Nat} : rbG vs fr f t c j ++ [bts vs (t + 8 * j - fr) (min (c - 8 * j) 8)] = rbG vs fr f t c (j + 1) := by
  rw [rbG, rbG, List.range_succ, List.map_append, ← List.append_assoc, List.map_singleton]
theorem rbG_len {vs : List Nat} {fr f t c j : Nat} : (rbG vs fr f t c j).length = 2 + j := by
  simp only [rbG, List.length_append, List.length_cons, List.length_nil, List.length_map, List.length_range]
def rwG (vs : List Nat) (fr f t c j : Nat) : List Nat := [f] ++ [2 * c] ++ (List.range j).flatMap (fun i => w2 (vs.getD (t + i - fr) 0))
theorem rwG_R {q vs : List Nat} {fr j : Nat} : rwG vs fr (q.getD 0 0) (wd q 1) (wd q 3) j = rwR q vs fr j := rfl
theorem rwG_succ {vs : List Nat} {fr f t c j : Nat} : rwG vs fr f t c j ++ w2 (vs.getD (t + j - fr) 0) = rwG vs fr f t c (j + 1) := by
  rw [rwG, rwG, List.range_succ, List.flatMap_append, ← List.append_assoc, List.flatMap_singleton]
theorem rwG_len {vs : List Nat} {fr f t c : Nat} : ∀ j : Nat, (rwG vs fr f t c j).length = 2 + 2 * j
  | 0 => rfl
  | j + 1 => by rw [← rwG_succ, List.length_append, rwG_len j, w2_len]; omega
theorem shl_nI {b i : Nat} (hi : i < 8) (hb : b < 2) : nI b <<< (nI i &&& 31) = nI (b * 2 ^ i) := by
  match i, b, hi, hb with
  | 0, 0, _, _ => decide
  | 1, 0, _, _ => decide
  | 2, 0, _, _ => decide
  | 3, 0, _, _ => decide
  | 4, 0, _, _ => decide
  | 5, 0, _, _ => decide
  | 6, 0, _, _ => decide
  | 7, 0, _, _ => decide
  | 0, 1, _, _ => decide
  | 1, 1, _, _ => decide
  | 2, 1, _, _ => decide
  | 3, 1, _, _ => decide
  | 4, 1, _, _ => decide
  | 5, 1, _, _ => decide
  | 6, 1, _, _ => decide
  | 7, 1, _, _ => decide
theorem bts_s {vs : List Nat} {s i b : Nat} (hb : b < 2) (e : vs.getD (s + i) 0 = b) : bts vs s i + b * 2 ^ i = bts vs s (i + 1) := by
  rw [bts, e]
  rcases (show b = 0 ∨ b = 1 by omega) with z | z <;> subst z <;> simp
theorem bts_256 {vs : List Nat} {s i : Nat} (hi : i ≤ 8) : bts vs s i < 256 := Nat.lt_of_lt_of_le (bts_lt vs s i) (Nat.pow_le_pow_right (by decide) hi : 2 ^ i ≤ 2 ^ 8)
set_option maxRecDepth 20000 in
set_option maxHeartbeats 2000000 in
theorem ul_bits {m d k t c : Nat} {s : DS} (he : okE s) (hk : k < 2) (hbit : ∀ x ∈ dL s k, x < 2) (hp : dF s k ≤ t ∧ t + c ≤ dF s k + (dL s k).length) (hc : c ≤ 2000) {h : eH} {Q : Option Value → eH → Prop} {j : Nat} (hj : 8 * j < c) (hv : rdV d s h) (kk : EE mX15_bits 2 44 0 0 Q 78 [some (.ref m), some (.ref d), some (.int (nI k)), some (.int (nI t)), some (.int (nI c)), some (.int (nI (8 * j))), some (.int (nI (bts (dL s k) (t + 8 * j - dF s k) (min (c - 8 * j) 8)))), none] [] h 0 0) : ∀ (n : Nat) (i : Nat), 8 - i < n → i ≤ min (c - 8 * j) 8 → EE mX15_bits 2 44 0 0 (Q) 35 [some (.ref m), some (.ref d), some (.int (nI k)), some (.int (nI t)), some (.int (nI c)), some (.int (nI (8 * j))), some (.int (nI (bts (dL s k) (t + 8 * j - dF s k) i))), some (.int (nI i))] [] h 0 0 := by
  intro n
  induction n with
  | zero => intro i hlt hle; exact absurd hlt (by omega)
  | succ n ih =>
    intro i hlt hle
    have ho := okE_pl he (k := k) (by omega)
    refine e_iload 37 dX15_bits_35 rfl rfl ?_
    refine e_bipush 39 (v := (nI 8)) dX15_bits_37 rfl (by decide) ?_
    refine e_icmp_ge 78 42 dX15_bits_39 rfl rfl (fun c39 => ?_) (fun c39 => ?_)
    · have k39 := j_ge_t (a := i) (b := 8) (by omega) (by omega) c39
      have e9 : i = min (c - 8 * j) 8 := by omega
      refine e_wk [some (.ref m), some (.ref d), some (.int (nI k)), some (.int (nI t)), some (.int (nI c)), some (.int (nI (8 * j))), some (.int (nI (bts (dL s k) (t + 8 * j - dF s k) i))), none] ⟨rfl, rfl, rfl, rfl, rfl, rfl, rfl, trivial⟩ ?_
      rw [e9]
      exact kk
    · have k39 := j_ge_f (a := i) (b := 8) (by omega) (by omega) c39
      refine e_iload 44 dX15_bits_42 rfl rfl ?_
      refine e_iload 46 dX15_bits_44 rfl rfl ?_
      refine e_iadd 47 (v := (nI ((8 * j) + i))) dX15_bits_46 rfl (nI_add (8 * j) i) ?_
      refine e_iload 49 dX15_bits_47 rfl rfl ?_
      refine e_icmp_ge 78 52 dX15_bits_49 rfl rfl (fun c49 => ?_) (fun c49 => ?_)
      · have k49 := j_ge_t (a := ((8 * j) + i)) (b := c) (by omega) (by omega) c49
        have e9 : i = min (c - 8 * j) 8 := by omega
        refine e_wk [some (.ref m), some (.ref d), some (.int (nI k)), some (.int (nI t)), some (.int (nI c)), some (.int (nI (8 * j))), some (.int (nI (bts (dL s k) (t + 8 * j - dF s k) i))), none] ⟨rfl, rfl, rfl, rfl, rfl, rfl, rfl, trivial⟩ ?_
        rw [e9]
        exact kk
      · have k49 := j_ge_f (a := ((8 * j) + i)) (b := c) (by omega) (by omega) c49
        refine e_iload 54 dX15_bits_52 rfl rfl ?_
        refine e_aload_n 55 dX15_bits_54 rfl rfl ?_
        refine e_iload_n 56 dX15_bits_55 rfl rfl ?_
        refine e_iload_n 57 dX15_bits_56 rfl rfl ?_
        refine e_iload 59 dX15_bits_57 rfl rfl ?_
        refine e_iadd 60 (v := (nI (t + (8 * j)))) dX15_bits_59 rfl (nI_add t (8 * j)) ?_
        refine e_iload 62 dX15_bits_60 rfl rfl ?_
        refine e_iadd 63 (v := (nI ((t + (8 * j)) + i))) dX15_bits_62 rfl (nI_add (t + (8 * j)) i) ?_
        have b9 : ((dL s k).getD (t + 8 * j + i - dF s k) 0) < 2 := gd_lt hbit (by decide)
        obtain ⟨A9, o9, -⟩ := id hv
        refine u_callV 66 dX15_bits_63 rfl cv_X15_137 o9 (u_X12_get hv he (by omega) (by omega)) rfl rfl (Nat.le_of_ble_eq_true rfl) (by decide) ⟨by omega, by omega⟩ ?_
        refine e_iload 68 dX15_bits_66 rfl rfl ?_
        refine e_ishl 69 (v := (nI (((dL s k).getD (t + 8 * j + i - dF s k) 0) * 2 ^ i))) dX15_bits_68 rfl (shl_nI (by omega) b9) ?_
        refine e_iadd 70 (v := (nI (bts (dL s k) (t + 8 * j - dF s k) (i + 1)))) dX15_bits_69 rfl (by rw [nI_add, bts_s b9 (by rw [show t + 8 * j - dF s k + i = t + 8 * j + i - dF s k by omega])]) ?_
        refine e_istore 72 (ls' := [some (.ref m), some (.ref d), some (.int (nI k)), some (.int (nI t)), some (.int (nI c)), some (.int (nI (8 * j))), some (.int (nI (bts (dL s k) (t + 8 * j - dF s k) (i + 1)))), some (.int (nI i))]) dX15_bits_70 rfl (by decide) rfl ?_
        refine e_iinc 75 (v := (nI (i + 1))) (ls' := [some (.ref m), some (.ref d), some (.int (nI k)), some (.int (nI t)), some (.int (nI c)), some (.int (nI (8 * j))), some (.int (nI (bts (dL s k) (t + 8 * j - dF s k) (i + 1)))), some (.int (nI (i + 1)))]) dX15_bits_72 rfl rfl (nI_add i 1) (by decide) rfl ?_
        refine e_goto 35 dX15_bits_75 rfl ?_
        refine e_wk [some (.ref m), some (.ref d), some (.int (nI k)), some (.int (nI t)), some (.int (nI c)), some (.int (nI (8 * j))), some (.int (nI (bts (dL s k) (t + 8 * j - dF s k) (i + 1)))), some (.int (nI (i + 1)))] ⟨rfl, rfl, rfl, rfl, rfl, rfl, rfl, rfl, trivial⟩ ?_
        exact ih (i + 1) (by omega) (by omega)
set_option maxRecDepth 20000 in
set_option maxHeartbeats 2000000 in
theorem l_X15_bits {m d k t c : Nat} {F w : Nat → Nat} {bg : Bool} {s : DS} (he : okE s) (hk : k < 2) (hbit : ∀ x ∈ dL s k, x < 2) (hp : dF s k ≤ t ∧ t + c ≤ dF s k + (dL s k).length) (hc : c ≤ 2000) : ∀ (n : Nat) (j : Nat) (h : eH), c + 8 - 8 * j < n → 8 * j ≤ c + 7 → stars [ansP m F w bg (rbG (dL s k) (dF s k) (k + 1) t c j), rdv d s] h → EE mX15_bits 2 44 0 0 (fun x9 h' => ∃ K, (x9 = none ∧ K = [ansP m F w bg (rbG (dL s k) (dF s k) (k + 1) t c ((c + 7) / 8)), rdv d s]) ∧ stars K h') 22 [some (.ref m), some (.ref d), some (.int (nI k)), some (.int (nI t)), some (.int (nI c)), some (.int (nI (8 * j))), none, none] [] h 0 0 := by
  intro n
  induction n with
  | zero => intro j h hlt hle hL; exact absurd hlt (by omega)
  | succ n ih =>
    intro j h hlt hle hL
    have ho := okE_pl he (k := k) (by omega)
    refine e_iload 24 dX15_bits_22 rfl rfl ?_
    refine e_iload 26 dX15_bits_24 rfl rfl ?_
    refine e_icmp_ge 90 29 dX15_bits_26 rfl rfl (fun c26 => ?_) (fun c26 => ?_)
    · have k26 := j_ge_t (a := (8 * j)) (b := c) (by omega) (by omega) c26
      exact e_vret dX15_bits_90 rfl (by omega) (by omega) (⟨_, ⟨rfl, rfl⟩, by rw [← show j = (c + 7) / 8 by omega]; exact hL⟩)
    · have k26 := j_ge_f (a := (8 * j)) (b := c) (by omega) (by omega) c26
      refine e_iconst 30 (v := (nI 0)) dX15_bits_29 rfl (by decide) ?_
      refine e_istore 32 (ls' := [some (.ref m), some (.ref d), some (.int (nI k)), some (.int (nI t)), some (.int (nI c)), some (.int (nI (8 * j))), some (.int (nI 0)), none]) dX15_bits_30 rfl (by decide) rfl ?_
      refine e_iconst 33 (v := (nI 0)) dX15_bits_32 rfl (by decide) ?_
      refine e_istore 35 (ls' := [some (.ref m), some (.ref d), some (.int (nI k)), some (.int (nI t)), some (.int (nI c)), some (.int (nI (8 * j))), some (.int (nI 0)), some (.int (nI 0))]) dX15_bits_33 rfl (by decide) rfl ?_
      refine e_lc (ls' := [some (.ref m), some (.ref d), some (.int (nI k)), some (.int (nI t)), some (.int (nI c)), some (.int (nI (8 * j))), some (.int (nI (bts (dL s k) (t + 8 * j - dF s k) 0))), some (.int (nI 0))]) rfl ?_
      refine ul_bits he hk hbit hp hc (by omega) (rdv_V _ 1 hL rfl) ?_ _ 0 (Nat.lt_succ_self _) (Nat.zero_le _)
      have b256 : (bts (dL s k) (t + 8 * j - dF s k) (min (c - 8 * j) 8)) < 256 := bts_256 (by omega)
      refine e_aload_n 79 dX15_bits_78 rfl rfl ?_
      refine e_iload 81 dX15_bits_79 rfl rfl ?_
      refine p_callV 84 hL [0, 1] 2 rfl (by decide) (L1 := [ansP m F w bg (rbG (dL s k) (dF s k) (k + 1) t c j)]) (L2 := [rdv d s]) rfl ans_O 0 rfl dX15_bits_81 rfl cv_X15_92 (k_saysB (by rw [rbG_len]; omega) b256) rfl rfl (Nat.le_of_ble_eq_true rfl) ⟨by decide, by omega, by omega⟩ (fun r1 L1 h q hL => ?_)
      obtain ⟨rfl, rfl⟩ := q
      have hL : stars [ansP m F w bg ((rbG (dL s k) (dF s k) (k + 1) t c j) ++ [(bts (dL s k) (t + 8 * j - dF s k) (min (c - 8 * j) 8))]), rdv d s] h := hL
      refine e_iinc 87 (v := (nI ((8 * j) + 8))) (ls' := [some (.ref m), some (.ref d), some (.int (nI k)), some (.int (nI t)), some (.int (nI c)), some (.int (nI ((8 * j) + 8))), some (.int (nI (bts (dL s k) (t + 8 * j - dF s k) (min (c - 8 * j) 8)))), none]) dX15_bits_84 rfl rfl (nI_add (8 * j) 8) (by decide) rfl ?_
      refine e_goto 22 dX15_bits_87 rfl ?_
      rw [rbG_succ] at hL
      have hL : stars [ansP m F w bg (rbG (dL s k) (dF s k) (k + 1) t c (j + 1)), rdv d s] h := hL
      refine e_wk [some (.ref m), some (.ref d), some (.int (nI k)), some (.int (nI t)), some (.int (nI c)), some (.int (nI (8 * (j + 1)))), none, none] ⟨rfl, rfl, rfl, rfl, rfl, by rw [show 8 * (j + 1) = 8 * j + 8 by omega], trivial⟩ ?_
      exact ih (j + 1) h (by omega) (by omega) hL
set_option maxRecDepth 20000 in
set_option maxHeartbeats 2000000 in
theorem k_X15_bits {m d k t c : Nat} {F w : Nat → Nat} {bg : Bool} {s : DS} (he : okE s) (hk : k < 2) (hbit : ∀ x ∈ dL s k, x < 2) (hp : dF s k ≤ t ∧ t + c ≤ dF s k + (dL s k).length) (hc : c ≤ 2000) : CA mX15_bits [.ref m, .ref d, .int (nI k), .int (nI t), .int (nI c)] [ansP m F w bg ([]), rdv d s] (fun x9 K => x9 = none ∧ K = [ansP m F w bg (rbG (dL s k) (dF s k) (k + 1) t c ((c + 7) / 8)), rdv d s]) 2 44 0 0 := by
  refine CA.mk 3 (ls := [some (.ref m), some (.ref d), some (.int (nI k)), some (.int (nI t)), some (.int (nI c)), none, none, none]) rfl rfl (Nat.le_of_ble_eq_true rfl) rfl (fun h hL => ?_)
  have ho := okE_pl he (k := k) (by omega)
  refine e_aload_n 1 dX15_bits_0 rfl rfl ?_
  refine e_iload_n 2 dX15_bits_1 rfl rfl ?_
  refine e_iconst 3 (v := (nI 1)) dX15_bits_2 rfl (by decide) ?_
  refine e_iadd 4 (v := (nI (k + 1))) dX15_bits_3 rfl (nI_add k 1) ?_
  refine p_callV 7 hL [0, 1] 2 rfl (by decide) (L1 := [ansP m F w bg ([])]) (L2 := [rdv d s]) rfl ans_O 0 rfl dX15_bits_4 rfl cv_X15_92 (k_saysB (by first | omega | (simp only [List.length_append, List.length_cons, List.length_nil, w2_len, List.length_take, rbR_len, rwR_len, List.length_reverse, tvR_len] <;> omega)) (by omega)) rfl rfl (Nat.le_of_ble_eq_true rfl) ⟨by decide, by omega, by omega⟩ (fun r1 L1 h q hL => ?_)
  obtain ⟨rfl, rfl⟩ := q
  have hL : stars [ansP m F w bg ([] ++ [(k + 1)]), rdv d s] h := hL
  refine e_aload_n 8 dX15_bits_7 rfl rfl ?_
  refine e_iload 10 dX15_bits_8 rfl rfl ?_
  refine e_bipush 12 (v := (nI 7)) dX15_bits_10 rfl (by decide) ?_
  refine e_iadd 13 (v := (nI (c + 7))) dX15_bits_12 rfl (nI_add c 7) ?_
  refine e_bipush 15 (v := (nI 8)) dX15_bits_13 rfl (by decide) ?_
  refine e_idiv 16 (v := (nI ((c + 7) / 8))) dX15_bits_15 rfl (by decide) (pk_div (by omega) (by decide) (by decide)) ?_
  refine p_callV 19 hL [0, 1] 2 rfl (by decide) (L1 := [ansP m F w bg ([] ++ [(k + 1)])]) (L2 := [rdv d s]) rfl ans_O 0 rfl dX15_bits_16 rfl cv_X15_92 (k_saysB (by first | omega | (simp only [List.length_append, List.length_cons, List.length_nil, w2_len, List.length_take, rbR_len, rwR_len, List.length_reverse, tvR_len] <;> omega)) (by omega)) rfl rfl (Nat.le_of_ble_eq_true rfl) ⟨by decide, by omega, by omega⟩ (fun r1 L1 h q hL => ?_)
  obtain ⟨rfl, rfl⟩ := q
  have hL : stars [ansP m F w bg (([] ++ [(k + 1)]) ++ [((c + 7) / 8)]), rdv d s] h := hL
  refine e_iconst 20 (v := (nI 0)) dX15_bits_19 rfl (by decide) ?_
  refine e_istore 22 (ls' := [some (.ref m), some (.ref d), some (.int (nI k)), some (.int (nI t)), some (.int (nI c)), some (.int (nI 0)), none, none]) dX15_bits_20 rfl (by decide) rfl ?_
  refine e_wk [some (.ref m), some (.ref d), some (.int (nI k)), some (.int (nI t)), some (.int (nI c)), some (.int (nI (8 * 0))), none, none] ⟨rfl, rfl, rfl, rfl, rfl, rfl, trivial⟩ ?_
  exact l_X15_bits he hk hbit hp hc _ 0 h (Nat.lt_succ_self _) (by omega) hL
set_option maxRecDepth 20000 in
set_option maxHeartbeats 2000000 in
theorem l_X15_values {m d k f t c : Nat} {F w : Nat → Nat} {bg : Bool} {s : DS} (he : okE s) (hk : k < 4) (hb : ∀ x ∈ dL s k, x < 65536) (hf : f < 256) (hp : dF s k ≤ t ∧ t + c ≤ dF s k + (dL s k).length) (hc : c ≤ 125) : ∀ (n : Nat) (i : Nat) (h : eH), c - i < n → i ≤ c → stars [ansP m F w bg (rwG (dL s k) (dF s k) f t c i), rdv d s] h → EE mX15_values 2 44 0 0 (fun x9 h' => ∃ K, (x9 = none ∧ K = [ansP m F w bg (rwG (dL s k) (dF s k) f t c c), rdv d s]) ∧ stars K h') 16 [some (.ref m), some (.ref d), some (.int (nI f)), some (.int (nI k)), some (.int (nI t)), some (.int (nI c)), some (.int (nI i))] [] h 0 0 := by
  intro n
  induction n with
  | zero => intro i h hlt hle hL; exact absurd hlt (by omega)
  | succ n ih =>
    intro i h hlt hle hL
    have ho := okE_pl he (k := k) hk
    refine e_iload 18 dX15_values_16 rfl rfl ?_
    refine e_iload 20 dX15_values_18 rfl rfl ?_
    refine e_icmp_ge 43 23 dX15_values_20 rfl rfl (fun c20 => ?_) (fun c20 => ?_)
    · have k20 := j_ge_t (a := i) (b := c) (by omega) (by omega) c20
      exact e_vret dX15_values_43 rfl (by omega) (by omega) (⟨_, ⟨rfl, rfl⟩, by (have e : i = c := by omega); rw [e] at hL; exact hL⟩)
    · have k20 := j_ge_f (a := i) (b := c) (by omega) (by omega) c20
      refine e_aload_n 24 dX15_values_23 rfl rfl ?_
      refine e_aload_n 25 dX15_values_24 rfl rfl ?_
      refine e_iload_n 26 dX15_values_25 rfl rfl ?_
      refine e_iload 28 dX15_values_26 rfl rfl ?_
      refine e_iload 30 dX15_values_28 rfl rfl ?_
      refine e_iadd 31 (v := (nI (t + i))) dX15_values_30 rfl (nI_add t i) ?_
      have b9 : ((dL s k).getD (t + i - dF s k) 0) < 65536 := gd_lt hb (by decide)
      have hv := rdv_V _ 1 hL rfl
      obtain ⟨A9, o9, -⟩ := id hv
      refine u_callV 34 dX15_values_31 rfl cv_X15_137 o9 (u_X12_get hv he (by omega) (by omega)) rfl rfl (Nat.le_of_ble_eq_true rfl) (by decide) ⟨by omega, by omega⟩ ?_
      refine p_callV 37 hL [0, 1] 2 rfl (by decide) (L1 := [ansP m F w bg (rwG (dL s k) (dF s k) f t c i)]) (L2 := [rdv d s]) rfl ans_O 0 rfl dX15_values_34 rfl cv_X15_183 (k_X15_saysTwo (by rw [rwG_len]; omega) (by omega)) rfl rfl (Nat.le_of_ble_eq_true rfl) ⟨by decide, by omega, by omega⟩ (fun r1 L1 h q hL => ?_)
      obtain ⟨rfl, rfl⟩ := q
      have hL : stars [ansP m F w bg ((rwG (dL s k) (dF s k) f t c i) ++ w2 ((dL s k).getD (t + i - dF s k) 0)), rdv d s] h := hL
      refine e_iinc 40 (v := (nI (i + 1))) (ls' := [some (.ref m), some (.ref d), some (.int (nI f)), some (.int (nI k)), some (.int (nI t)), some (.int (nI c)), some (.int (nI (i + 1)))]) dX15_values_37 rfl rfl (nI_add i 1) (by decide) rfl ?_
      refine e_goto 16 dX15_values_40 rfl ?_
      rw [rwG_succ] at hL
      have hL : stars [ansP m F w bg (rwG (dL s k) (dF s k) f t c (i + 1)), rdv d s] h := hL
      refine e_wk [some (.ref m), some (.ref d), some (.int (nI f)), some (.int (nI k)), some (.int (nI t)), some (.int (nI c)), some (.int (nI (i + 1)))] ⟨rfl, rfl, rfl, rfl, rfl, rfl, rfl, trivial⟩ ?_
      exact ih (i + 1) h (by omega) (by omega) hL
set_option maxRecDepth 20000 in
set_option maxHeartbeats 2000000 in
theorem k_X15_values {m d k f t c : Nat} {F w : Nat → Nat} {bg : Bool} {s : DS} (he : okE s) (hk : k < 4) (hb : ∀ x ∈ dL s k, x < 65536) (hf : f < 256) (hp : dF s k ≤ t ∧ t + c ≤ dF s k + (dL s k).length) (hc : c ≤ 125) : CA mX15_values [.ref m, .ref d, .int (nI f), .int (nI k), .int (nI t), .int (nI c)] [ansP m F w bg ([]), rdv d s] (fun x9 K => x9 = none ∧ K = [ansP m F w bg (rwG (dL s k) (dF s k) f t c c), rdv d s]) 2 44 0 0 := by
  refine CA.mk 1 (ls := [some (.ref m), some (.ref d), some (.int (nI f)), some (.int (nI k)), some (.int (nI t)), some (.int (nI c)), none]) rfl rfl (Nat.le_of_ble_eq_true rfl) rfl (fun h hL => ?_)
  have ho := okE_pl he (k := k) hk
  refine e_aload_n 1 dX15_values_0 rfl rfl ?_
  refine e_iload_n 2 dX15_values_1 rfl rfl ?_
  refine p_callV 5 hL [0, 1] 2 rfl (by decide) (L1 := [ansP m F w bg ([])]) (L2 := [rdv d s]) rfl ans_O 0 rfl dX15_values_2 rfl cv_X15_92 (k_saysB (by first | omega | (simp only [List.length_append, List.length_cons, List.length_nil, w2_len, List.length_take, rbR_len, rwR_len, List.length_reverse, tvR_len] <;> omega)) (by omega)) rfl rfl (Nat.le_of_ble_eq_true rfl) ⟨by decide, by omega, by omega⟩ (fun r1 L1 h q hL => ?_)
  obtain ⟨rfl, rfl⟩ := q
  have hL : stars [ansP m F w bg ([] ++ [f]), rdv d s] h := hL
  refine e_aload_n 6 dX15_values_5 rfl rfl ?_
  refine e_iconst 7 (v := (nI 2)) dX15_values_6 rfl (by decide) ?_
  refine e_iload 9 dX15_values_7 rfl rfl ?_
  refine e_imul 10 (v := (nI (2 * c))) dX15_values_9 rfl (pk_mul 2 c) ?_
  refine p_callV 13 hL [0, 1] 2 rfl (by decide) (L1 := [ansP m F w bg ([] ++ [f])]) (L2 := [rdv d s]) rfl ans_O 0 rfl dX15_values_10 rfl cv_X15_92 (k_saysB (by first | omega | (simp only [List.length_append, List.length_cons, List.length_nil, w2_len, List.length_take, rbR_len, rwR_len, List.length_reverse, tvR_len] <;> omega)) (by omega)) rfl rfl (Nat.le_of_ble_eq_true rfl) ⟨by decide, by omega, by omega⟩ (fun r1 L1 h q hL => ?_)
  obtain ⟨rfl, rfl⟩ := q
  have hL : stars [ansP m F w bg (([] ++ [f]) ++ [(2 * c)]), rdv d s] h := hL
  refine e_iconst 14 (v := (nI 0)) dX15_values_13 rfl (by decide) ?_
  refine e_istore 16 (ls' := [some (.ref m), some (.ref d), some (.int (nI f)), some (.int (nI k)), some (.int (nI t)), some (.int (nI c)), some (.int (nI 0))]) dX15_values_14 rfl (by decide) rfl ?_
  exact l_X15_values he hk hb hf hp hc _ 0 h (Nat.lt_succ_self _) (Nat.zero_le _) hL
