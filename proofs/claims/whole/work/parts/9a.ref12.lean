/-! the reference: its own object; the answer that is being made -/
abbrev moF (F w : Nat → Nat) (bg : Bool) : List Value := [.int (nI (w 0)), .ref (F 1), .int (nI (w 2)), .ref (F 3), .int (nI (w 4)), .ref (F 5), .ref (F 6), .int (nI (w 7)), .int (nI (w 8)), .int (nI (w 9)), .int (nI (w 10)), .int (nI (w 11)), .ref (F 12), .ref (F 13), .ref (F 14), .int (nI (w 15)), .int (nI (w 16)), .int (nI (w 17)), .int (nI (w 18)), .int (nI (w 19)), .int (nI (w 20)), .ref (F 21), .int (nI (w 22)), .int (nI (w 23)), .int (nI (w 24)), .int (bI bg), .int (nI (w 26)), .int (nI (w 27)), .int (nI (w 28)), .int (nI (w 29)), .int (nI (w 30)), .ref (F 31), .ref (F 32), .int (nI (w 33)), .ref (F 34), .int (nI (w 35)), .ref (F 36), .int (nI (w 37))]
abbrev rmo (m : Nat) (F w : Nat → Nat) (bg : Bool) : sA := pt m (.inr (13, moF F w bg))
def ansP (m : Nat) (F w : Nat → Nat) (bg : Bool) (r : List Nat) : sA := fun h => stars [rmo m F (upN w 4 r.length) bg, iar (F 3) 300 r] h
theorem ans_O {m : Nat} {F w : Nat → Nat} {bg : Bool} {r : List Nat} : isO (ansP m F w bg r) m 13 := fun h k => ⟨_, stars_at _ 0 k rfl⟩
theorem ans_o {m : Nat} {F w : Nat → Nat} {bg : Bool} {r : List Nat} {X : List sA} {h : eH} (k : stars (ansP m F w bg r :: X) h) : stars (rmo m F (upN w 4 r.length) bg :: iar (F 3) 300 r :: X) h := stars_open (K := [_, _]) k (fun _ z => z)
theorem ans_c {m : Nat} {F w : Nat → Nat} {bg : Bool} {r : List Nat} {X : List sA} {h : eH} (k : stars (rmo m F (upN w 4 r.length) bg :: iar (F 3) 300 r :: X) h) : stars (ansP m F w bg r :: X) h := stars_close (K := [_, _]) k (fun _ z => z)
theorem nx_255 {v : Nat} : nI v &&& nI 255 = nI (v % 2 ^ 8) := by rw [nx_and]; exact congrArg nI (Nat.and_two_pow_sub_one_eq_mod v 8)
set_option maxRecDepth 20000 in
set_option maxHeartbeats 2000000 in
theorem k_X15_says {m v : Nat} {F w : Nat → Nat} {bg : Bool} {r : List Nat} (hr : r.length < 300) (hv : v < 2 ^ 31) : CA mX15_says [.ref m, .int (nI v)] [ansP m F w bg r] (fun x9 K => x9 = none ∧ K = [ansP m F w bg (r ++ [v % 2 ^ 8])]) 0 0 0 0 := by
  refine CA.mk 0 (ls := [some (.ref m), some (.int (nI v))]) rfl rfl (Nat.le_of_ble_eq_true rfl) rfl (fun h hL => ?_)
  have hL := ans_o hL
  have hL : stars [pt m (.inr (13, moF F (upN w 4 r.length) bg)), iar (F 3) 300 r] h := hL
  refine e_aload_n 1 dX15_says_0 rfl rfl ?_
  refine e_get 4 dX15_says_1 rfl fl_X15_15_13 (stars_at _ 0 hL rfl) rfl ?_
  refine e_aload_n 5 dX15_says_4 rfl rfl ?_
  refine e_get 8 dX15_says_5 rfl fl_X15_89_13 (stars_at _ 0 hL rfl) rfl ?_
  refine e_iload_n 9 dX15_says_8 rfl rfl ?_
  refine e_sipush 12 (v := (nI 255)) dX15_says_9 rfl (by decide) ?_
  refine e_iand 13 (v := (nI (v % 2 ^ 8))) dX15_says_12 rfl nx_255 ?_
  refine p_iastR 14 hL 1 (r := r) (r' := (r ++ [v % 2 ^ 8])) (k := r.length) (v := (v % 2 ^ 8)) (L' := [pt m (.inr (13, moF F (upN w 4 r.length) bg)), iar (F 3) 300 (r ++ [v % 2 ^ 8])]) rfl dX15_says_13 rfl (by omega) (by omega) (iw_app (by omega)) rfl (fun h hL => ?_)
  refine e_aload_n 15 dX15_says_14 rfl rfl ?_
  refine e_dup 16 dX15_says_15 rfl rfl ?_
  refine e_get 19 dX15_says_16 rfl fl_X15_89_13 (stars_at _ 0 hL rfl) rfl ?_
  refine e_iconst 20 (v := (nI 1)) dX15_says_19 rfl (by decide) ?_
  refine e_iadd 21 (v := (nI (r.length + 1))) dX15_says_20 rfl (nI_add r.length 1) ?_
  refine p_put 24 hL 0 (fs' := moF F (upN (upN w 4 r.length) 4 (r.length + 1)) bg) (L' := [pt m (.inr (13, moF F (upN (upN w 4 r.length) 4 (r.length + 1)) bg)), iar (F 3) 300 (r ++ [v % 2 ^ 8])]) rfl rfl dX15_says_21 rfl fp_X15_89_13 (Or.inl rfl) (Nat.le_of_ble_eq_true rfl) rfl rfl rfl (fun h hL => ?_)
  have hL := ans_c (r := r ++ [v % 2 ^ 8]) (by rw [List.length_append]; exact hL)
  exact e_vret dX15_says_24 rfl (by omega) (by omega) (⟨_, ⟨rfl, rfl⟩, hL⟩)
theorem k_saysB {m v : Nat} {F w : Nat → Nat} {bg : Bool} {r : List Nat} (hr : r.length < 300) (hv : v < 256) : CA mX15_says [.ref m, .int (nI v)] [ansP m F w bg r] (fun x9 K => x9 = none ∧ K = [ansP m F w bg (r ++ [v])]) 0 0 0 0 := by
  have := k_X15_says (m := m) (F := F) (w := w) (bg := bg) (v := v) hr (by omega)
  rwa [Nat.mod_eq_of_lt (show v < 2 ^ 8 from hv)] at this
theorem w2_app {r : List Nat} {v : Nat} : r ++ w2 v = r ++ [v / 2 ^ 8 % 2 ^ 8] ++ [v % 2 ^ 8] := by rw [w2, List.append_assoc]; rfl
set_option maxRecDepth 20000 in
set_option maxHeartbeats 2000000 in
theorem k_X15_saysTwo {m v : Nat} {F w : Nat → Nat} {bg : Bool} {r : List Nat} (hr : r.length + 2 ≤ 300) (hv : v < 2 ^ 31) : CA mX15_saysTwo [.ref m, .int (nI v)] [ansP m F w bg r] (fun x9 K => x9 = none ∧ K = [ansP m F w bg (r ++ w2 v)]) 1 21 0 0 := by
  refine CA.mk 0 (ls := [some (.ref m), some (.int (nI v))]) rfl rfl (Nat.le_of_ble_eq_true rfl) rfl (fun h hL => ?_)
  refine e_aload_n 1 dX15_saysTwo_0 rfl rfl ?_
  refine e_iload_n 2 dX15_saysTwo_1 rfl rfl ?_
  refine e_sipush 5 (v := (nI 256)) dX15_saysTwo_2 rfl (by decide) ?_
  refine e_idiv 6 (v := (nI (v / 2 ^ 8))) dX15_saysTwo_5 rfl (by decide) (pk_div (by omega) (by decide) (by decide)) ?_
  refine p_callV 9 hL [0] 1 rfl (by decide) (L1 := [ansP m F w bg r]) (L2 := []) rfl ans_O 0 rfl dX15_saysTwo_6 rfl cv_X15_92 (k_X15_says (by first | omega | (simp only [List.length_append, List.length_cons, List.length_nil, w2_len, List.length_take, rbR_len, rwR_len, List.length_reverse, tvR_len] <;> omega)) (by omega)) rfl rfl (Nat.le_of_ble_eq_true rfl) ⟨by decide, by omega, by omega⟩ (fun r1 L1 h q hL => ?_)
  obtain ⟨rfl, rfl⟩ := q
  have hL : stars [ansP m F w bg (r ++ [(v / 2 ^ 8) % 2 ^ 8])] h := hL
  refine e_aload_n 10 dX15_saysTwo_9 rfl rfl ?_
  refine e_iload_n 11 dX15_saysTwo_10 rfl rfl ?_
  refine e_sipush 14 (v := (nI 256)) dX15_saysTwo_11 rfl (by decide) ?_
  refine e_irem 15 (v := (nI (v % 2 ^ 8))) dX15_saysTwo_14 rfl (by decide) (pk_rem (by omega) (by decide) (by decide)) ?_
  refine p_callV 18 hL [0] 1 rfl (by decide) (L1 := [ansP m F w bg (r ++ [(v / 2 ^ 8) % 2 ^ 8])]) (L2 := []) rfl ans_O 0 rfl dX15_saysTwo_15 rfl cv_X15_92 (k_saysB (by first | omega | (simp only [List.length_append, List.length_cons, List.length_nil, w2_len, List.length_take, rbR_len, rwR_len, List.length_reverse, tvR_len] <;> omega)) (by omega)) rfl rfl (Nat.le_of_ble_eq_true rfl) ⟨by decide, by omega, by omega⟩ (fun r1 L1 h q hL => ?_)
  obtain ⟨rfl, rfl⟩ := q
  have hL : stars [ansP m F w bg ((r ++ [(v / 2 ^ 8) % 2 ^ 8]) ++ [(v % 2 ^ 8)])] h := hL
  exact e_vret dX15_saysTwo_18 rfl (by omega) (by omega) (⟨_, ⟨rfl, rfl⟩, by rw [w2_app]; exact hL⟩)
theorem take_gd {q : List Nat} {i : Nat} (h : i < q.length) : q.take (i + 1) = q.take i ++ [q.getD i 0] := by
  rw [List.take_succ_eq_append_getElem h]
  simp [List.getD, h]
set_option maxRecDepth 20000 in
set_option maxHeartbeats 2000000 in
theorem l_X15_same {m a qn k : Nat} {F w : Nat → Nat} {bg : Bool} {r q : List Nat} (hr : r.length + k ≤ 300) (hn : k ≤ q.length) (hq : ∀ x ∈ q, x < 256) (hqn : qn < 100000) : ∀ (n : Nat) (i : Nat) (h : eH), k - i < n → i ≤ k → stars [ansP m F w bg (r ++ q.take i), iar a qn q] h → EE mX15_same 1 21 0 0 (fun x9 h' => ∃ K, (x9 = none ∧ K = [ansP m F w bg (r ++ q.take k), iar a qn q]) ∧ stars K h') 2 [some (.ref m), some (.ref a), some (.int (nI k)), some (.int (nI i))] [] h 0 0 := by
  intro n
  induction n with
  | zero => intro i h hlt hle hL; exact absurd hlt (by omega)
  | succ n ih =>
    intro i h hlt hle hL
    have hqle := (iar_V _ 1 hL rfl).le
    refine e_iload_n 3 dX15_same_2 rfl rfl ?_
    refine e_iload_n 4 dX15_same_3 rfl rfl ?_
    refine e_icmp_ge 20 7 dX15_same_4 rfl rfl (fun c4 => ?_) (fun c4 => ?_)
    · have k4 := j_ge_t (a := i) (b := k) (by omega) (by omega) c4
      exact e_vret dX15_same_20 rfl (by omega) (by omega) (⟨_, ⟨rfl, rfl⟩, by rw [← show i = k by omega]; exact hL⟩)
    · have k4 := j_ge_f (a := i) (b := k) (by omega) (by omega) c4
      refine e_aload_n 8 dX15_same_7 rfl rfl ?_
      refine e_aload_n 9 dX15_same_8 rfl rfl ?_
      refine e_iload_n 10 dX15_same_9 rfl rfl ?_
      have b10 := gd_lt (i := i) hq (by decide)
      refine v_iald 11 (iar_V _ 1 hL rfl) (k := i) (x := (q.getD i 0)) dX15_same_10 rfl (by omega) (by omega) rfl ?_
      refine p_callV 14 hL [0, 1] 2 rfl (by decide) (L1 := [ansP m F w bg (r ++ q.take i)]) (L2 := [iar a qn q]) rfl ans_O 0 rfl dX15_same_11 rfl cv_X15_92 (k_saysB (by first | omega | (simp only [List.length_append, List.length_cons, List.length_nil, w2_len, List.length_take, rbR_len, rwR_len, List.length_reverse, tvR_len] <;> omega)) (by omega)) rfl rfl (Nat.le_of_ble_eq_true rfl) ⟨by decide, by omega, by omega⟩ (fun r1 L1 h q hL => ?_)
      obtain ⟨rfl, rfl⟩ := q
      have hL : stars [ansP m F w bg ((r ++ q.take i) ++ [(q.getD i 0)]), iar a qn q] h := hL
      refine e_iinc 17 (v := (nI (i + 1))) (ls' := [some (.ref m), some (.ref a), some (.int (nI k)), some (.int (nI (i + 1)))]) dX15_same_14 rfl rfl (nI_add i 1) (by decide) rfl ?_
      refine e_goto 2 dX15_same_17 rfl ?_
      rw [List.append_assoc, ← take_gd (by omega)] at hL
      have hL : stars [ansP m F w bg (r ++ q.take (i + 1)), iar a qn q] h := hL
      refine e_wk [some (.ref m), some (.ref a), some (.int (nI k)), some (.int (nI (i + 1)))] ⟨rfl, rfl, rfl, rfl, trivial⟩ ?_
      exact ih (i + 1) h (by omega) (by omega) hL
set_option maxRecDepth 20000 in
set_option maxHeartbeats 2000000 in
theorem k_X15_same {m a qn k : Nat} {F w : Nat → Nat} {bg : Bool} {r q : List Nat} (hr : r.length + k ≤ 300) (hn : k ≤ q.length) (hq : ∀ x ∈ q, x < 256) (hqn : qn < 100000) : CA mX15_same [.ref m, .ref a, .int (nI k)] [ansP m F w bg r, iar a qn q] (fun x9 K => x9 = none ∧ K = [ansP m F w bg (r ++ q.take k), iar a qn q]) 1 21 0 0 := by
  refine CA.mk 1 (ls := [some (.ref m), some (.ref a), some (.int (nI k)), none]) rfl rfl (Nat.le_of_ble_eq_true rfl) rfl (fun h hL => ?_)
  refine e_iconst 1 (v := (nI 0)) dX15_same_0 rfl (by decide) ?_
  refine e_istore_n 2 (ls' := [some (.ref m), some (.ref a), some (.int (nI k)), some (.int (nI 0))]) dX15_same_1 rfl (by decide) rfl ?_
  exact l_X15_same hr hn hq hqn _ 0 h (Nat.lt_succ_self _) (Nat.zero_le _) (by rw [List.take_zero, List.append_nil]; exact hL)
