/-! Service: reading and writing places -/
theorem pl_in {fr n t m : Nat} (ht : t < 2 ^ 31) (h : plI fr n (nI t) m = true) : 0 < m ∧ fr ≤ t ∧ t + m ≤ fr + n := by
  rw [plI, decide_eq_true_eq, nI_clamp ht] at h
  exact ⟨h.2.1, h.2.2.1, h.2.2.2⟩
theorem vl_nat {fr t : Nat} {vs : List Nat} (ht : t < 2 ^ 31) (h1 : fr ≤ t) (h2 : t < fr + vs.length) : vlI fr vs (nI t) = nI (vs.getD (t - fr) 0) := by
  rw [vlI, if_pos (plI_t ht (by decide) h1 h2), nI_clamp ht]
theorem mv_nat {mk y : Nat} (hy : y < 2 ^ 32) : mv mk (nI y) = y % (mk + 1) := by
  rw [mv]
  congr 1
  simp only [nI, Int32.toBitVec_ofNat', BitVec.toNat_ofNat]
  exact Nat.mod_eq_of_lt hy
theorem wr_nat {mk fr t y : Nat} {vs : List Nat} (ht : t < 2 ^ 31) (h1 : fr ≤ t) (h2 : t < fr + vs.length) (hy : y < 2 ^ 32) : wrI mk fr vs (nI t) (nI y) = vs.set (t - fr) (y % (mk + 1)) := by
  rw [wrI, if_pos (plI_t ht (by decide) h1 h2), nI_clamp ht, mv_nat hy]
theorem shr8 {x k : Nat} (hx : x < 2 ^ 31) (hk : k < 8) : nI x >>> (nI k &&& 31) = nI (x / 2 ^ k) := by
  rcases (show k = 0 ∨ k = 1 ∨ k = 2 ∨ k = 3 ∨ k = 4 ∨ k = 5 ∨ k = 6 ∨ k = 7 by omega) with e | e | e | e | e | e | e | e <;> subst e <;> exact pk_shrN hx _ _ (by decide)
/-- the answer to a reading of bits, of which j bytes are told -/
def rbR (q vs : List Nat) (fr j : Nat) : List Nat := [q.getD 0 0, (wd q 3 + 7) / 8] ++ (List.range j).map (fun i => bts vs (wd q 1 + 8 * i - fr) (min (wd q 3 - 8 * i) 8))
theorem rbR_succ {q vs : List Nat} {fr j : Nat} : rbR q vs fr j ++ [bts vs (wd q 1 + 8 * j - fr) (min (wd q 3 - 8 * j) 8)] = rbR q vs fr (j + 1) := by
  rw [rbR, rbR, List.range_succ, List.map_append, List.append_assoc, List.map_singleton]
theorem rbR_len {q vs : List Nat} {fr j : Nat} : (rbR q vs fr j).length = 2 + j := by
  simp only [rbR, List.length_append, List.length_cons, List.length_nil, List.length_map, List.length_range]
  try omega
def rwR (q vs : List Nat) (fr j : Nat) : List Nat := [q.getD 0 0, 2 * wd q 3] ++ (List.range j).flatMap (fun i => w2 (vs.getD (wd q 1 + i - fr) 0))
theorem rwR_succ {q vs : List Nat} {fr j : Nat} : rwR q vs fr j ++ w2 (vs.getD (wd q 1 + j - fr) 0) = rwR q vs fr (j + 1) := by
  rw [rwR, rwR, List.range_succ, List.flatMap_append, List.append_assoc, List.flatMap_singleton]
theorem rwR_len {q vs : List Nat} {fr : Nat} : ∀ j : Nat, (rwR q vs fr j).length = 2 + 2 * j
  | 0 => rfl
  | j + 1 => by rw [← rwR_succ, List.length_append, rwR_len j, w2_len]; omega
def wbF (q : List Nat) (fr : Nat) (vs : List Nat) : Nat → List Nat
  | 0 => vs
  | i + 1 => (wbF q fr vs i).set (wd q 1 + i - fr) (q.getD (6 + i / 8) 0 / 2 ^ (i % 8) % 2)
theorem wbF_len {q vs : List Nat} {fr : Nat} : ∀ i : Nat, (wbF q fr vs i).length = vs.length
  | 0 => rfl
  | i + 1 => by rw [wbF, List.length_set, wbF_len i]
def wwF (q : List Nat) (fr t fb : Nat) (vs : List Nat) : Nat → List Nat
  | 0 => vs
  | i + 1 => (wwF q fr t fb vs i).set (t + i - fr) (wd q (fb + 2 * i))
theorem wwF_len {q vs : List Nat} {fr t fb : Nat} : ∀ i : Nat, (wwF q fr t fb vs i).length = vs.length
  | 0 => rfl
  | i + 1 => by rw [wwF, List.length_set, wwF_len i]
theorem set_lt {l : List Nat} {i x B : Nat} (h : ∀ y ∈ l, y < B) (hx : x < B) : ∀ y ∈ l.set i x, y < B := by
  intro y hy
  rcases List.mem_or_eq_of_mem_set hy with z | z
  · exact h y z
  · rw [z]; exact hx
theorem wwF_lt {q vs : List Nat} {fr t fb : Nat} (hq : ∀ x ∈ q, x < 256) (h : ∀ y ∈ vs, y < 65536) : ∀ i, ∀ y ∈ wwF q fr t fb vs i, y < 65536
  | 0 => h
  | i + 1 => set_lt (wwF_lt hq h i) (wd_lt hq)
theorem wbF_lt {q vs : List Nat} {fr : Nat} (h : ∀ y ∈ vs, y < 65536) : ∀ i, ∀ y ∈ wbF q fr vs i, y < 65536
  | 0 => h
  | i + 1 => set_lt (wbF_lt h i) (Nat.lt_of_lt_of_le (Nat.mod_lt _ (by decide)) (by decide))
set_option maxRecDepth 20000 in
set_option maxHeartbeats 2000000 in
theorem l_X6_readBits {g b cb b2 mk fr : Nat} {q vs : List Nat} (hq : ∀ x ∈ q, x < 256) (hvs : ∀ x ∈ vs, x < 65536) (hp : plI fr vs.length (nI (wd q 1)) (wd q 3) = true) (hn : wd q 3 ≤ 2000) : ∀ (n : Nat) (j : Nat) (h : eH), wd q 3 + 8 - 8 * j < n → 8 * j < wd q 3 + 8 → stars [bank g mk fr vs, row b cb q, row b2 253 (rbR q vs fr j)] h → EE mX6_readBits 1 40 0 0 (fun r h' => ∃ L', (r = none ∧ L' = [bank g mk fr vs, row b cb q, row b2 253 (rbR q vs fr ((wd q 3 + 7) / 8))]) ∧ stars L' h') 37 [some (.ref g), some (.ref b), some (.ref b2), some (.int (nI (wd q 1))), some (.int (nI (wd q 3))), some (.int (nI (8 * j)))] [] h 0 0 := by
  intro n
  induction n with
  | zero => intro j h hlt hj hL; exact absurd hlt (by omega)
  | succ n ih =>
    intro j h hlt hj hL
    have w1 := wd_lt (k := 1) hq
    have w3 := wd_lt (k := 3) hq
    have g0 := gd_lt (i := 0) hq (by decide)
    have hp9 := pl_in (by omega) hp
    refine e_iload 39 dX6_readBits_37 rfl rfl ?_
    refine e_iload 41 dX6_readBits_39 rfl rfl ?_
    refine e_icmp_ge 67 44 dX6_readBits_41 rfl rfl (fun c41 => ?_) (fun c41 => ?_)
    · have k41 := j_ge_t (a := (8 * j)) (b := (wd q 3)) (by omega) (by omega) c41
      exact e_vret dX6_readBits_67 rfl (by omega) (by omega) (⟨_, ⟨rfl, rfl⟩, by rw [show (wd q 3 + 7) / 8 = j by omega]; exact hL⟩)
    · have k41 := j_ge_f (a := (8 * j)) (b := (wd q 3)) (by omega) (by omega) c41
      refine e_aload_n 45 dX6_readBits_44 rfl rfl ?_
      refine e_aload_n 46 dX6_readBits_45 rfl rfl ?_
      refine e_iload_n 47 dX6_readBits_46 rfl rfl ?_
      refine e_iload 49 dX6_readBits_47 rfl rfl ?_
      refine e_iadd 50 (v := (nI ((wd q 1) + (8 * j)))) dX6_readBits_49 rfl (nI_add (wd q 1) (8 * j)) ?_
      refine e_iload 52 dX6_readBits_50 rfl rfl ?_
      refine e_iload 54 dX6_readBits_52 rfl rfl ?_
      refine e_isub 55 (v := (nI (wd q 3 - 8 * j))) dX6_readBits_54 rfl (pk_sub (by omega)) ?_
      refine p_callV 58 hL [0, 1, 2] 3 rfl (by decide) (L1 := [bank g mk fr vs]) (L2 := [row b cb q, row b2 253 (rbR q vs fr j)]) rfl bank_O 0 rfl dX6_readBits_55 rfl cv_X6_156 (k_X0_bits hvs (by omega) (by omega) (by omega)) rfl rfl (Nat.le_of_ble_eq_true rfl) ⟨by decide, by omega, by omega⟩ (fun r1 L1 h q hL => ?_)
      obtain ⟨rfl, rfl⟩ := q
      have hL : stars [bank g mk fr vs, row b cb q, row b2 253 (rbR q vs fr j)] h := hL
      refine p_callV 61 hL [2, 0, 1] 3 rfl (by decide) (L1 := [row b2 253 (rbR q vs fr j)]) (L2 := [bank g mk fr vs, row b cb q]) rfl row_O 2 rfl dX6_readBits_58 rfl cv_X6_40 (k_add1 (by rw [rbR_len]; omega)) rfl rfl (Nat.le_of_ble_eq_true rfl) ⟨by decide, by omega, by omega⟩ (fun r1 L1 h q hL => ?_)
      obtain ⟨rfl, rfl⟩ := q
      have hL : stars [row b2 253 ((rbR q vs fr j) ++ [(bts vs (wd q 1 + 8 * j - fr) (min (wd q 3 - 8 * j) 8))]), bank g mk fr vs, row b cb q] h := hL
      have hL : stars [bank g mk fr vs, row b cb q, row b2 253 ((rbR q vs fr j) ++ [(bts vs (wd q 1 + 8 * j - fr) (min (wd q 3 - 8 * j) 8))])] h := stars_ixn hL 3 rfl [1, 2, 0] (by decide) rfl
      refine e_iinc 64 (v := (nI ((8 * j) + 8))) (ls' := [some (.ref g), some (.ref b), some (.ref b2), some (.int (nI (wd q 1))), some (.int (nI (wd q 3))), some (.int (nI ((8 * j) + 8)))]) dX6_readBits_61 rfl rfl (nI_add (8 * j) 8) (by decide) rfl ?_
      refine e_goto 37 dX6_readBits_64 rfl ?_
      rw [rbR_succ] at hL
      refine e_wk [some (.ref g), some (.ref b), some (.ref b2), some (.int (nI (wd q 1))), some (.int (nI (wd q 3))), some (.int (nI (8 * (j + 1))))] ⟨rfl, rfl, rfl, rfl, rfl, by rw [show 8 * (j + 1) = 8 * j + 8 by omega], trivial⟩ ?_
      exact ih (j + 1) h (by omega) (by omega) hL
set_option maxRecDepth 20000 in
set_option maxHeartbeats 2000000 in
/-- readBits(bank, q, a) -/
theorem k_X6_readBits {g b cb b2 mk fr : Nat} {q vs : List Nat} (hq : ∀ x ∈ q, x < 256) (hvs : ∀ x ∈ vs, x < 65536) (hp : plI fr vs.length (nI (wd q 1)) (wd q 3) = true) (hn : wd q 3 ≤ 2000) : CA mX6_readBits [.ref g, .ref b, .ref b2] [bank g mk fr vs, row b cb q, row b2 253 ([])] (fun r L => r = none ∧ L = [bank g mk fr vs, row b cb q, row b2 253 (rbR q vs fr ((wd q 3 + 7) / 8))]) 1 40 0 0 := by
  refine CA.mk 3 (ls := [some (.ref g), some (.ref b), some (.ref b2), none, none, none]) rfl rfl (Nat.le_of_ble_eq_true rfl) rfl (fun h hL => ?_)
  have w1 := wd_lt (k := 1) hq
  have w3 := wd_lt (k := 3) hq
  have g0 := gd_lt (i := 0) hq (by decide)
  have hp9 := pl_in (by omega) hp
  refine e_aload_n 1 dX6_readBits_0 rfl rfl ?_
  refine e_iconst 2 (v := (nI 1)) dX6_readBits_1 rfl (by decide) ?_
  refine p_callV 5 hL [1, 0, 2] 3 rfl (by decide) (L1 := [row b cb q]) (L2 := [bank g mk fr vs, row b2 253 ([])]) rfl row_O 1 rfl dX6_readBits_2 rfl cv_X6_54 (k_X4_word (by omega)) rfl rfl (Nat.le_of_ble_eq_true rfl) ⟨by decide, by omega, by omega⟩ (fun r1 L1 h q hL => ?_)
  obtain ⟨rfl, rfl⟩ := q
  have hL : stars [row b cb q, bank g mk fr vs, row b2 253 ([])] h := hL
  have hL : stars [bank g mk fr vs, row b cb q, row b2 253 ([])] h := stars_ixn hL 3 rfl [1, 0, 2] (by decide) rfl
  refine e_istore_n 6 (ls' := [some (.ref g), some (.ref b), some (.ref b2), some (.int (nI (wd q 1))), none, none]) dX6_readBits_5 rfl (by decide) rfl ?_
  refine e_aload_n 7 dX6_readBits_6 rfl rfl ?_
  refine e_iconst 8 (v := (nI 3)) dX6_readBits_7 rfl (by decide) ?_
  refine p_callV 11 hL [1, 0, 2] 3 rfl (by decide) (L1 := [row b cb q]) (L2 := [bank g mk fr vs, row b2 253 ([])]) rfl row_O 1 rfl dX6_readBits_8 rfl cv_X6_54 (k_X4_word (by omega)) rfl rfl (Nat.le_of_ble_eq_true rfl) ⟨by decide, by omega, by omega⟩ (fun r1 L1 h q hL => ?_)
  obtain ⟨rfl, rfl⟩ := q
  have hL : stars [row b cb q, bank g mk fr vs, row b2 253 ([])] h := hL
  have hL : stars [bank g mk fr vs, row b cb q, row b2 253 ([])] h := stars_ixn hL 3 rfl [1, 0, 2] (by decide) rfl
  refine e_istore 13 (ls' := [some (.ref g), some (.ref b), some (.ref b2), some (.int (nI (wd q 1))), some (.int (nI (wd q 3))), none]) dX6_readBits_11 rfl (by decide) rfl ?_
  refine e_aload_n 14 dX6_readBits_13 rfl rfl ?_
  refine e_aload_n 15 dX6_readBits_14 rfl rfl ?_
  refine e_iconst 16 (v := (nI 0)) dX6_readBits_15 rfl (by decide) ?_
  refine p_callV 19 hL [1, 0, 2] 3 rfl (by decide) (L1 := [row b cb q]) (L2 := [bank g mk fr vs, row b2 253 ([])]) rfl row_O 1 rfl dX6_readBits_16 rfl cv_X6_36 (k_X4_at (by omega)) rfl rfl (Nat.le_of_ble_eq_true rfl) ⟨by decide, by omega, by omega⟩ (fun r1 L1 h q hL => ?_)
  obtain ⟨rfl, rfl⟩ := q
  have hL : stars [row b cb q, bank g mk fr vs, row b2 253 ([])] h := hL
  have hL : stars [bank g mk fr vs, row b cb q, row b2 253 ([])] h := stars_ixn hL 3 rfl [1, 0, 2] (by decide) rfl
  refine p_callV 22 hL [2, 0, 1] 3 rfl (by decide) (L1 := [row b2 253 ([])]) (L2 := [bank g mk fr vs, row b cb q]) rfl row_O 2 rfl dX6_readBits_19 rfl cv_X6_40 (k_add1 (by simp only [List.length_append, List.length_cons, List.length_nil, pf_len, w2_len, List.length_map, List.length_range]; omega)) rfl rfl (Nat.le_of_ble_eq_true rfl) ⟨by decide, by omega, by omega⟩ (fun r1 L1 h q hL => ?_)
  obtain ⟨rfl, rfl⟩ := q
  have hL : stars [row b2 253 ([] ++ [(q.getD 0 0)]), bank g mk fr vs, row b cb q] h := hL
  have hL : stars [bank g mk fr vs, row b cb q, row b2 253 ([] ++ [(q.getD 0 0)])] h := stars_ixn hL 3 rfl [1, 2, 0] (by decide) rfl
  refine e_aload_n 23 dX6_readBits_22 rfl rfl ?_
  refine e_iload 25 dX6_readBits_23 rfl rfl ?_
  refine e_bipush 27 (v := (nI 7)) dX6_readBits_25 rfl (by decide) ?_
  refine e_iadd 28 (v := (nI ((wd q 3) + 7))) dX6_readBits_27 rfl (nI_add (wd q 3) 7) ?_
  refine e_bipush 30 (v := (nI 8)) dX6_readBits_28 rfl (by decide) ?_
  refine e_idiv 31 (v := (nI ((wd q 3 + 7) / 8))) dX6_readBits_30 rfl (by decide) (pk_div (by omega) (by decide) (by decide)) ?_
  refine p_callV 34 hL [2, 0, 1] 3 rfl (by decide) (L1 := [row b2 253 ([] ++ [(q.getD 0 0)])]) (L2 := [bank g mk fr vs, row b cb q]) rfl row_O 2 rfl dX6_readBits_31 rfl cv_X6_40 (k_add1 (by simp only [List.length_append, List.length_cons, List.length_nil, pf_len, w2_len, List.length_map, List.length_range]; omega)) rfl rfl (Nat.le_of_ble_eq_true rfl) ⟨by decide, by omega, by omega⟩ (fun r1 L1 h q hL => ?_)
  obtain ⟨rfl, rfl⟩ := q
  have hL : stars [row b2 253 (([] ++ [(q.getD 0 0)]) ++ [((wd q 3 + 7) / 8)]), bank g mk fr vs, row b cb q] h := hL
  have hL : stars [bank g mk fr vs, row b cb q, row b2 253 (([] ++ [(q.getD 0 0)]) ++ [((wd q 3 + 7) / 8)])] h := stars_ixn hL 3 rfl [1, 2, 0] (by decide) rfl
  refine e_iconst 35 (v := (nI 0)) dX6_readBits_34 rfl (by decide) ?_
  refine e_istore 37 (ls' := [some (.ref g), some (.ref b), some (.ref b2), some (.int (nI (wd q 1))), some (.int (nI (wd q 3))), some (.int (nI 0))]) dX6_readBits_35 rfl (by decide) rfl ?_
  exact l_X6_readBits hq hvs hp hn (wd q 3 + 9) 0 h (by omega) (by omega) hL
set_option maxRecDepth 20000 in
set_option maxHeartbeats 2000000 in
theorem l_X6_readWords {g b cb b2 mk fr : Nat} {q vs : List Nat} (hq : ∀ x ∈ q, x < 256) (hvs : ∀ x ∈ vs, x < 65536) (hp : plI fr vs.length (nI (wd q 1)) (wd q 3) = true) (hn : wd q 3 ≤ 125) : ∀ (n : Nat) (j : Nat) (h : eH), wd q 3 - j < n → j ≤ wd q 3 → stars [bank g mk fr vs, row b cb q, row b2 253 (rwR q vs fr j)] h → EE mX6_readWords 1 40 0 0 (fun r h' => ∃ L', (r = none ∧ L' = [bank g mk fr vs, row b cb q, row b2 253 (rwR q vs fr (wd q 3))]) ∧ stars L' h') 33 [some (.ref g), some (.ref b), some (.ref b2), some (.int (nI (wd q 1))), some (.int (nI (wd q 3))), some (.int (nI j))] [] h 0 0 := by
  intro n
  induction n with
  | zero => intro j h hlt hj hL; exact absurd hlt (by omega)
  | succ n ih =>
    intro j h hlt hj hL
    have w1 := wd_lt (k := 1) hq
    have w3 := wd_lt (k := 3) hq
    have g0 := gd_lt (i := 0) hq (by decide)
    have hp9 := pl_in (by omega) hp
    refine e_iload 35 dX6_readWords_33 rfl rfl ?_
    refine e_iload 37 dX6_readWords_35 rfl rfl ?_
    refine e_icmp_ge 58 40 dX6_readWords_37 rfl rfl (fun c37 => ?_) (fun c37 => ?_)
    · have k37 := j_ge_t (a := j) (b := (wd q 3)) (by omega) (by omega) c37
      exact e_vret dX6_readWords_58 rfl (by omega) (by omega) (⟨_, ⟨rfl, rfl⟩, by rw [show wd q 3 = j by omega]; exact hL⟩)
    · have k37 := j_ge_f (a := j) (b := (wd q 3)) (by omega) (by omega) c37
      refine e_aload_n 41 dX6_readWords_40 rfl rfl ?_
      refine e_aload_n 42 dX6_readWords_41 rfl rfl ?_
      refine e_iload_n 43 dX6_readWords_42 rfl rfl ?_
      refine e_iload 45 dX6_readWords_43 rfl rfl ?_
      refine e_iadd 46 (v := (nI ((wd q 1) + j))) dX6_readWords_45 rfl (nI_add (wd q 1) j) ?_
      refine p_callV 49 hL [0, 1, 2] 3 rfl (by decide) (L1 := [bank g mk fr vs]) (L2 := [row b cb q, row b2 253 (rwR q vs fr j)]) rfl bank_O 0 rfl dX6_readWords_46 rfl cv_X6_110 k_X0_value rfl rfl (Nat.le_of_ble_eq_true rfl) ⟨by decide, by omega, by omega⟩ (fun r1 L1 h q hL => ?_)
      obtain ⟨rfl, rfl⟩ := q
      have hL : stars [bank g mk fr vs, row b cb q, row b2 253 (rwR q vs fr j)] h := hL
      rw [vl_nat (t := wd q 1 + j) (by omega) (by omega) (by omega)]
      have hv9 : vs.getD (wd q 1 + j - fr) 0 < 65536 := gd_lt hvs (by decide)
      refine p_callV 52 hL [2, 0, 1] 3 rfl (by decide) (L1 := [row b2 253 (rwR q vs fr j)]) (L2 := [bank g mk fr vs, row b cb q]) rfl row_O 2 rfl dX6_readWords_49 rfl cv_X6_160 (k_add2 (by omega) (by rw [rwR_len]; omega)) rfl rfl (Nat.le_of_ble_eq_true rfl) ⟨by decide, by omega, by omega⟩ (fun r1 L1 h q hL => ?_)
      obtain ⟨rfl, rfl⟩ := q
      have hL : stars [row b2 253 ((rwR q vs fr j) ++ w2 (vs.getD (wd q 1 + j - fr) 0)), bank g mk fr vs, row b cb q] h := hL
      have hL : stars [bank g mk fr vs, row b cb q, row b2 253 ((rwR q vs fr j) ++ w2 (vs.getD (wd q 1 + j - fr) 0))] h := stars_ixn hL 3 rfl [1, 2, 0] (by decide) rfl
      refine e_iinc 55 (v := (nI (j + 1))) (ls' := [some (.ref g), some (.ref b), some (.ref b2), some (.int (nI (wd q 1))), some (.int (nI (wd q 3))), some (.int (nI (j + 1)))]) dX6_readWords_52 rfl rfl (nI_add j 1) (by decide) rfl ?_
      refine e_goto 33 dX6_readWords_55 rfl ?_
      rw [rwR_succ] at hL
      exact ih (j + 1) h (by omega) (by omega) hL
set_option maxRecDepth 20000 in
set_option maxHeartbeats 2000000 in
/-- readWords(bank, q, a) -/
theorem k_X6_readWords {g b cb b2 mk fr : Nat} {q vs : List Nat} (hq : ∀ x ∈ q, x < 256) (hvs : ∀ x ∈ vs, x < 65536) (hp : plI fr vs.length (nI (wd q 1)) (wd q 3) = true) (hn : wd q 3 ≤ 125) : CA mX6_readWords [.ref g, .ref b, .ref b2] [bank g mk fr vs, row b cb q, row b2 253 ([])] (fun r L => r = none ∧ L = [bank g mk fr vs, row b cb q, row b2 253 (rwR q vs fr (wd q 3))]) 1 40 0 0 := by
  refine CA.mk 3 (ls := [some (.ref g), some (.ref b), some (.ref b2), none, none, none]) rfl rfl (Nat.le_of_ble_eq_true rfl) rfl (fun h hL => ?_)
  have w1 := wd_lt (k := 1) hq
  have w3 := wd_lt (k := 3) hq
  have g0 := gd_lt (i := 0) hq (by decide)
  have hp9 := pl_in (by omega) hp
  refine e_aload_n 1 dX6_readWords_0 rfl rfl ?_
  refine e_iconst 2 (v := (nI 1)) dX6_readWords_1 rfl (by decide) ?_
  refine p_callV 5 hL [1, 0, 2] 3 rfl (by decide) (L1 := [row b cb q]) (L2 := [bank g mk fr vs, row b2 253 ([])]) rfl row_O 1 rfl dX6_readWords_2 rfl cv_X6_54 (k_X4_word (by omega)) rfl rfl (Nat.le_of_ble_eq_true rfl) ⟨by decide, by omega, by omega⟩ (fun r1 L1 h q hL => ?_)
  obtain ⟨rfl, rfl⟩ := q
  have hL : stars [row b cb q, bank g mk fr vs, row b2 253 ([])] h := hL
  have hL : stars [bank g mk fr vs, row b cb q, row b2 253 ([])] h := stars_ixn hL 3 rfl [1, 0, 2] (by decide) rfl
  refine e_istore_n 6 (ls' := [some (.ref g), some (.ref b), some (.ref b2), some (.int (nI (wd q 1))), none, none]) dX6_readWords_5 rfl (by decide) rfl ?_
  refine e_aload_n 7 dX6_readWords_6 rfl rfl ?_
  refine e_iconst 8 (v := (nI 3)) dX6_readWords_7 rfl (by decide) ?_
  refine p_callV 11 hL [1, 0, 2] 3 rfl (by decide) (L1 := [row b cb q]) (L2 := [bank g mk fr vs, row b2 253 ([])]) rfl row_O 1 rfl dX6_readWords_8 rfl cv_X6_54 (k_X4_word (by omega)) rfl rfl (Nat.le_of_ble_eq_true rfl) ⟨by decide, by omega, by omega⟩ (fun r1 L1 h q hL => ?_)
  obtain ⟨rfl, rfl⟩ := q
  have hL : stars [row b cb q, bank g mk fr vs, row b2 253 ([])] h := hL
  have hL : stars [bank g mk fr vs, row b cb q, row b2 253 ([])] h := stars_ixn hL 3 rfl [1, 0, 2] (by decide) rfl
  refine e_istore 13 (ls' := [some (.ref g), some (.ref b), some (.ref b2), some (.int (nI (wd q 1))), some (.int (nI (wd q 3))), none]) dX6_readWords_11 rfl (by decide) rfl ?_
  refine e_aload_n 14 dX6_readWords_13 rfl rfl ?_
  refine e_aload_n 15 dX6_readWords_14 rfl rfl ?_
  refine e_iconst 16 (v := (nI 0)) dX6_readWords_15 rfl (by decide) ?_
  refine p_callV 19 hL [1, 0, 2] 3 rfl (by decide) (L1 := [row b cb q]) (L2 := [bank g mk fr vs, row b2 253 ([])]) rfl row_O 1 rfl dX6_readWords_16 rfl cv_X6_36 (k_X4_at (by omega)) rfl rfl (Nat.le_of_ble_eq_true rfl) ⟨by decide, by omega, by omega⟩ (fun r1 L1 h q hL => ?_)
  obtain ⟨rfl, rfl⟩ := q
  have hL : stars [row b cb q, bank g mk fr vs, row b2 253 ([])] h := hL
  have hL : stars [bank g mk fr vs, row b cb q, row b2 253 ([])] h := stars_ixn hL 3 rfl [1, 0, 2] (by decide) rfl
  refine p_callV 22 hL [2, 0, 1] 3 rfl (by decide) (L1 := [row b2 253 ([])]) (L2 := [bank g mk fr vs, row b cb q]) rfl row_O 2 rfl dX6_readWords_19 rfl cv_X6_40 (k_add1 (by simp only [List.length_append, List.length_cons, List.length_nil, pf_len, w2_len, List.length_map, List.length_range]; omega)) rfl rfl (Nat.le_of_ble_eq_true rfl) ⟨by decide, by omega, by omega⟩ (fun r1 L1 h q hL => ?_)
  obtain ⟨rfl, rfl⟩ := q
  have hL : stars [row b2 253 ([] ++ [(q.getD 0 0)]), bank g mk fr vs, row b cb q] h := hL
  have hL : stars [bank g mk fr vs, row b cb q, row b2 253 ([] ++ [(q.getD 0 0)])] h := stars_ixn hL 3 rfl [1, 2, 0] (by decide) rfl
  refine e_aload_n 23 dX6_readWords_22 rfl rfl ?_
  refine e_iconst 24 (v := (nI 2)) dX6_readWords_23 rfl (by decide) ?_
  refine e_iload 26 dX6_readWords_24 rfl rfl ?_
  refine e_imul 27 (v := (nI (2 * (wd q 3)))) dX6_readWords_26 rfl (pk_mul 2 (wd q 3)) ?_
  refine p_callV 30 hL [2, 0, 1] 3 rfl (by decide) (L1 := [row b2 253 ([] ++ [(q.getD 0 0)])]) (L2 := [bank g mk fr vs, row b cb q]) rfl row_O 2 rfl dX6_readWords_27 rfl cv_X6_40 (k_add1 (by simp only [List.length_append, List.length_cons, List.length_nil, pf_len, w2_len, List.length_map, List.length_range]; omega)) rfl rfl (Nat.le_of_ble_eq_true rfl) ⟨by decide, by omega, by omega⟩ (fun r1 L1 h q hL => ?_)
  obtain ⟨rfl, rfl⟩ := q
  have hL : stars [row b2 253 (([] ++ [(q.getD 0 0)]) ++ [(2 * (wd q 3))]), bank g mk fr vs, row b cb q] h := hL
  have hL : stars [bank g mk fr vs, row b cb q, row b2 253 (([] ++ [(q.getD 0 0)]) ++ [(2 * (wd q 3))])] h := stars_ixn hL 3 rfl [1, 2, 0] (by decide) rfl
  refine e_iconst 31 (v := (nI 0)) dX6_readWords_30 rfl (by decide) ?_
  refine e_istore 33 (ls' := [some (.ref g), some (.ref b), some (.ref b2), some (.int (nI (wd q 1))), some (.int (nI (wd q 3))), some (.int (nI 0))]) dX6_readWords_31 rfl (by decide) rfl ?_
  exact l_X6_readWords hq hvs hp hn (wd q 3 + 1) 0 h (by omega) (by omega) hL
set_option maxRecDepth 20000 in
set_option maxHeartbeats 2000000 in
theorem l_X6_writeBits {g b cb fr : Nat} {q vs : List Nat} (hq : ∀ x ∈ q, x < 256) (hp : plI fr vs.length (nI (wd q 1)) (wd q 3) = true) (hn : wd q 3 ≤ 2000) : ∀ (n : Nat) (j : Nat) (h : eH), wd q 3 - j < n → j ≤ wd q 3 → stars [bank g 1 fr (wbF q fr vs j), row b cb q] h → EE mX6_writeBits 1 40 0 0 (fun r h' => ∃ L', (r = none ∧ L' = [bank g 1 fr (wbF q fr vs (wd q 3)), row b cb q]) ∧ stars L' h') 15 [some (.ref g), some (.ref b), some (.int (nI (wd q 1))), some (.int (nI (wd q 3))), some (.int (nI j))] [] h 0 0 := by
  intro n
  induction n with
  | zero => intro j h hlt hj hL; exact absurd hlt (by omega)
  | succ n ih =>
    intro j h hlt hj hL
    have w1 := wd_lt (k := 1) hq
    have w3 := wd_lt (k := 3) hq
    have g0 := gd_lt (i := 0) hq (by decide)
    have hp9 := pl_in (by omega) hp
    have g6 := gd_lt (i := 6 + j / 8) hq (by decide)
    refine e_iload 17 dX6_writeBits_15 rfl rfl ?_
    refine e_iload_n 18 dX6_writeBits_17 rfl rfl ?_
    refine e_icmp_ge 53 21 dX6_writeBits_18 rfl rfl (fun c18 => ?_) (fun c18 => ?_)
    · have k18 := j_ge_t (a := j) (b := (wd q 3)) (by omega) (by omega) c18
      exact e_vret dX6_writeBits_53 rfl (by omega) (by omega) (⟨_, ⟨rfl, rfl⟩, by rw [show wd q 3 = j by omega]; exact hL⟩)
    · have k18 := j_ge_f (a := j) (b := (wd q 3)) (by omega) (by omega) c18
      refine e_aload_n 22 dX6_writeBits_21 rfl rfl ?_
      refine e_iload_n 23 dX6_writeBits_22 rfl rfl ?_
      refine e_iload 25 dX6_writeBits_23 rfl rfl ?_
      refine e_iadd 26 (v := (nI ((wd q 1) + j))) dX6_writeBits_25 rfl (nI_add (wd q 1) j) ?_
      refine e_aload_n 27 dX6_writeBits_26 rfl rfl ?_
      refine e_bipush 29 (v := (nI 6)) dX6_writeBits_27 rfl (by decide) ?_
      refine e_iload 31 dX6_writeBits_29 rfl rfl ?_
      refine e_bipush 33 (v := (nI 8)) dX6_writeBits_31 rfl (by decide) ?_
      refine e_idiv 34 (v := (nI (j / 8))) dX6_writeBits_33 rfl (by decide) (pk_div (by omega) (by decide) (by decide)) ?_
      refine e_iadd 35 (v := (nI (6 + (j / 8)))) dX6_writeBits_34 rfl (nI_add 6 (j / 8)) ?_
      refine p_callV 38 hL [1, 0] 2 rfl (by decide) (L1 := [row b cb q]) (L2 := [bank g 1 fr (wbF q fr vs j)]) rfl row_O 1 rfl dX6_writeBits_35 rfl cv_X6_36 (k_X4_at (by omega)) rfl rfl (Nat.le_of_ble_eq_true rfl) ⟨by decide, by omega, by omega⟩ (fun r1 L1 h q hL => ?_)
      obtain ⟨rfl, rfl⟩ := q
      have hL : stars [row b cb q, bank g 1 fr (wbF q fr vs j)] h := hL
      have hL : stars [bank g 1 fr (wbF q fr vs j), row b cb q] h := stars_ixn hL 2 rfl [1, 0] (by decide) rfl
      refine e_iload 40 dX6_writeBits_38 rfl rfl ?_
      refine e_bipush 42 (v := (nI 8)) dX6_writeBits_40 rfl (by decide) ?_
      refine e_irem 43 (v := (nI (j % 8))) dX6_writeBits_42 rfl (by decide) (pk_rem (by omega) (by decide) (by decide)) ?_
      refine e_ishr 44 (v := (nI (q.getD (6 + j / 8) 0 / 2 ^ (j % 8)))) dX6_writeBits_43 rfl (shr8 (by omega) (by omega)) ?_
      refine p_callV 47 hL [0, 1] 2 rfl (by decide) (L1 := [bank g 1 fr (wbF q fr vs j)]) (L2 := [row b cb q]) rfl bank_O 0 rfl dX6_writeBits_44 rfl cv_X6_130 k_X0_write rfl rfl (Nat.le_of_ble_eq_true rfl) ⟨by decide, by omega, by omega⟩ (fun r1 L1 h q hL => ?_)
      obtain ⟨rfl, rfl⟩ := q
      have hL : stars [bank g 1 fr (wrI 1 fr (wbF q fr vs j) (nI ((wd q 1) + j)) (nI (q.getD (6 + j / 8) 0 / 2 ^ (j % 8)))), row b cb q] h := hL
      refine e_iinc 50 (v := (nI (j + 1))) (ls' := [some (.ref g), some (.ref b), some (.int (nI (wd q 1))), some (.int (nI (wd q 3))), some (.int (nI (j + 1)))]) dX6_writeBits_47 rfl rfl (nI_add j 1) (by decide) rfl ?_
      refine e_goto 15 dX6_writeBits_50 rfl ?_
      rw [wr_nat (by omega) (by omega) (by rw [wbF_len]; omega) (Nat.lt_of_le_of_lt (Nat.div_le_self _ _) (by omega))] at hL
      exact ih (j + 1) h (by omega) (by omega) hL
set_option maxRecDepth 20000 in
set_option maxHeartbeats 2000000 in
/-- writeBits(bank, q) -/
theorem k_X6_writeBits {g b cb fr : Nat} {q vs : List Nat} (hq : ∀ x ∈ q, x < 256) (hp : plI fr vs.length (nI (wd q 1)) (wd q 3) = true) (hn : wd q 3 ≤ 2000) : CA mX6_writeBits [.ref g, .ref b] [bank g 1 fr vs, row b cb q] (fun r L => r = none ∧ L = [bank g 1 fr (wbF q fr vs (wd q 3)), row b cb q]) 1 40 0 0 := by
  refine CA.mk 3 (ls := [some (.ref g), some (.ref b), none, none, none]) rfl rfl (Nat.le_of_ble_eq_true rfl) rfl (fun h hL => ?_)
  have w1 := wd_lt (k := 1) hq
  have w3 := wd_lt (k := 3) hq
  have g0 := gd_lt (i := 0) hq (by decide)
  have hp9 := pl_in (by omega) hp
  refine e_aload_n 1 dX6_writeBits_0 rfl rfl ?_
  refine e_iconst 2 (v := (nI 1)) dX6_writeBits_1 rfl (by decide) ?_
  refine p_callV 5 hL [1, 0] 2 rfl (by decide) (L1 := [row b cb q]) (L2 := [bank g 1 fr vs]) rfl row_O 1 rfl dX6_writeBits_2 rfl cv_X6_54 (k_X4_word (by omega)) rfl rfl (Nat.le_of_ble_eq_true rfl) ⟨by decide, by omega, by omega⟩ (fun r1 L1 h q hL => ?_)
  obtain ⟨rfl, rfl⟩ := q
  have hL : stars [row b cb q, bank g 1 fr vs] h := hL
  have hL : stars [bank g 1 fr vs, row b cb q] h := stars_ixn hL 2 rfl [1, 0] (by decide) rfl
  refine e_istore_n 6 (ls' := [some (.ref g), some (.ref b), some (.int (nI (wd q 1))), none, none]) dX6_writeBits_5 rfl (by decide) rfl ?_
  refine e_aload_n 7 dX6_writeBits_6 rfl rfl ?_
  refine e_iconst 8 (v := (nI 3)) dX6_writeBits_7 rfl (by decide) ?_
  refine p_callV 11 hL [1, 0] 2 rfl (by decide) (L1 := [row b cb q]) (L2 := [bank g 1 fr vs]) rfl row_O 1 rfl dX6_writeBits_8 rfl cv_X6_54 (k_X4_word (by omega)) rfl rfl (Nat.le_of_ble_eq_true rfl) ⟨by decide, by omega, by omega⟩ (fun r1 L1 h q hL => ?_)
  obtain ⟨rfl, rfl⟩ := q
  have hL : stars [row b cb q, bank g 1 fr vs] h := hL
  have hL : stars [bank g 1 fr vs, row b cb q] h := stars_ixn hL 2 rfl [1, 0] (by decide) rfl
  refine e_istore_n 12 (ls' := [some (.ref g), some (.ref b), some (.int (nI (wd q 1))), some (.int (nI (wd q 3))), none]) dX6_writeBits_11 rfl (by decide) rfl ?_
  refine e_iconst 13 (v := (nI 0)) dX6_writeBits_12 rfl (by decide) ?_
  refine e_istore 15 (ls' := [some (.ref g), some (.ref b), some (.int (nI (wd q 1))), some (.int (nI (wd q 3))), some (.int (nI 0))]) dX6_writeBits_13 rfl (by decide) rfl ?_
  exact l_X6_writeBits hq hp hn (wd q 3 + 1) 0 h (by omega) (by omega) hL
set_option maxRecDepth 20000 in
set_option maxHeartbeats 2000000 in
theorem l_X6_writeWords {g b cb fr t n9 fb : Nat} {q vs : List Nat} (hq : ∀ x ∈ q, x < 256) (ht : t < 65536) (hp : plI fr vs.length (nI t) n9 = true) (hn : n9 ≤ 2000) (hfb : fb < 100) : ∀ (n : Nat) (j : Nat) (h : eH), n9 - j < n → j ≤ n9 → stars [bank g 65535 fr (wwF q fr t fb vs j), row b cb q] h → EE mX6_writeWords 1 40 0 0 (fun r h' => ∃ L', (r = none ∧ L' = [bank g 65535 fr (wwF q fr t fb vs n9), row b cb q]) ∧ stars L' h') 3 [some (.ref g), some (.int (nI t)), some (.int (nI n9)), some (.ref b), some (.int (nI fb)), some (.int (nI j))] [] h 0 0 := by
  intro n
  induction n with
  | zero => intro j h hlt hj hL; exact absurd hlt (by omega)
  | succ n ih =>
    intro j h hlt hj hL
    have hp9 := pl_in (by omega) hp
    have hw9 := wd_lt (k := fb + 2 * j) hq
    refine e_iload 5 dX6_writeWords_3 rfl rfl ?_
    refine e_iload_n 6 dX6_writeWords_5 rfl rfl ?_
    refine e_icmp_ge 34 9 dX6_writeWords_6 rfl rfl (fun c6 => ?_) (fun c6 => ?_)
    · have k6 := j_ge_t (a := j) (b := n9) (by omega) (by omega) c6
      exact e_vret dX6_writeWords_34 rfl (by omega) (by omega) (⟨_, ⟨rfl, rfl⟩, by rw [show n9 = j by omega]; exact hL⟩)
    · have k6 := j_ge_f (a := j) (b := n9) (by omega) (by omega) c6
      refine e_aload_n 10 dX6_writeWords_9 rfl rfl ?_
      refine e_iload_n 11 dX6_writeWords_10 rfl rfl ?_
      refine e_iload 13 dX6_writeWords_11 rfl rfl ?_
      refine e_iadd 14 (v := (nI (t + j))) dX6_writeWords_13 rfl (nI_add t j) ?_
      refine e_aload_n 15 dX6_writeWords_14 rfl rfl ?_
      refine e_iload 17 dX6_writeWords_15 rfl rfl ?_
      refine e_iconst 18 (v := (nI 2)) dX6_writeWords_17 rfl (by decide) ?_
      refine e_iload 20 dX6_writeWords_18 rfl rfl ?_
      refine e_imul 21 (v := (nI (2 * j))) dX6_writeWords_20 rfl (pk_mul 2 j) ?_
      refine e_iadd 22 (v := (nI (fb + (2 * j)))) dX6_writeWords_21 rfl (nI_add fb (2 * j)) ?_
      refine p_callV 25 hL [1, 0] 2 rfl (by decide) (L1 := [row b cb q]) (L2 := [bank g 65535 fr (wwF q fr t fb vs j)]) rfl row_O 1 rfl dX6_writeWords_22 rfl cv_X6_54 (k_X4_word (by omega)) rfl rfl (Nat.le_of_ble_eq_true rfl) ⟨by decide, by omega, by omega⟩ (fun r1 L1 h q hL => ?_)
      obtain ⟨rfl, rfl⟩ := q
      have hL : stars [row b cb q, bank g 65535 fr (wwF q fr t fb vs j)] h := hL
      have hL : stars [bank g 65535 fr (wwF q fr t fb vs j), row b cb q] h := stars_ixn hL 2 rfl [1, 0] (by decide) rfl
      refine p_callV 28 hL [0, 1] 2 rfl (by decide) (L1 := [bank g 65535 fr (wwF q fr t fb vs j)]) (L2 := [row b cb q]) rfl bank_O 0 rfl dX6_writeWords_25 rfl cv_X6_130 k_X0_write rfl rfl (Nat.le_of_ble_eq_true rfl) ⟨by decide, by omega, by omega⟩ (fun r1 L1 h q hL => ?_)
      obtain ⟨rfl, rfl⟩ := q
      have hL : stars [bank g 65535 fr (wrI 65535 fr (wwF q fr t fb vs j) (nI (t + j)) (nI (wd q (fb + (2 * j))))), row b cb q] h := hL
      refine e_iinc 31 (v := (nI (j + 1))) (ls' := [some (.ref g), some (.int (nI t)), some (.int (nI n9)), some (.ref b), some (.int (nI fb)), some (.int (nI (j + 1)))]) dX6_writeWords_28 rfl rfl (nI_add j 1) (by decide) rfl ?_
      refine e_goto 3 dX6_writeWords_31 rfl ?_
      rw [wr_nat (by omega) (by omega) (by rw [wwF_len]; omega) (by omega), Nat.mod_eq_of_lt hw9] at hL
      exact ih (j + 1) h (by omega) (by omega) hL
set_option maxRecDepth 20000 in
set_option maxHeartbeats 2000000 in
/-- writeWords(bank, at, n, q, firstByte) -/
theorem k_X6_writeWords {g b cb fr t n9 fb : Nat} {q vs : List Nat} (hq : ∀ x ∈ q, x < 256) (ht : t < 65536) (hp : plI fr vs.length (nI t) n9 = true) (hn : n9 ≤ 2000) (hfb : fb < 100) : CA mX6_writeWords [.ref g, .int (nI t), .int (nI n9), .ref b, .int (nI fb)] [bank g 65535 fr vs, row b cb q] (fun r L => r = none ∧ L = [bank g 65535 fr (wwF q fr t fb vs n9), row b cb q]) 1 40 0 0 := by
  refine CA.mk 1 (ls := [some (.ref g), some (.int (nI t)), some (.int (nI n9)), some (.ref b), some (.int (nI fb)), none]) rfl rfl (Nat.le_of_ble_eq_true rfl) rfl (fun h hL => ?_)
  refine e_iconst 1 (v := (nI 0)) dX6_writeWords_0 rfl (by decide) ?_
  refine e_istore 3 (ls' := [some (.ref g), some (.int (nI t)), some (.int (nI n9)), some (.ref b), some (.int (nI fb)), some (.int (nI 0))]) dX6_writeWords_1 rfl (by decide) rfl ?_
  exact l_X6_writeWords hq ht hp hn hfb (n9 + 1) 0 h (by omega) (by omega) hL
