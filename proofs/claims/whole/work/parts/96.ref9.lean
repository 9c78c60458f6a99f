/-! the reference: what a device does to itself -/
def ctD (s : DS) (k : Nat) : DS := (s.1, s.2.1, s.2.2.1, cUp s.2.2.2.1 k, s.2.2.2.2)
def evD (s : DS) (e : Nat) : DS := (s.1, s.2.1, s.2.2.1, s.2.2.2.1, upL s.2.2.2.2.1 5 (lat 64 (s.2.2.2.2.1 5) e), s.2.2.2.2.2)
def puD (s : DS) (k i x : Nat) : DS := (s.1, s.2.1, s.2.2.1, s.2.2.2.1, upL s.2.2.2.2.1 k ((s.2.2.2.2.1 k).set i x), s.2.2.2.2.2)
def quD (s : DS) (i x : Nat) : DS := (s.1, s.2.1, s.2.2.1, s.2.2.2.1, s.2.2.2.2.1, upM s.2.2.2.2.2.1 1 (stM (s.2.2.2.2.2.1 1) i (lat 40 (rwM (s.2.2.2.2.2.1 1) i) x)), s.2.2.2.2.2.2)
theorem iw_tbl {m n k v : Nat} {f : Nat → Nat} (hm : m ≤ n) (hk : k < m) : (tbl m (upN f k v)).length ≤ n ∧ ∀ j, j < (tbl m (upN f k v)).length → (j = k ∧ (tbl m (upN f k v)).getD j 0 = v) ∨ (j ≠ k ∧ j < (tbl m f).length ∧ (tbl m (upN f k v)).getD j 0 = (tbl m f).getD j 0) := by
  rw [tbl_len, tbl_len]
  refine ⟨hm, fun j hj => ?_⟩
  rw [tbl_at hj, tbl_at hj]
  by_cases e : j = k
  · exact Or.inl ⟨e, by rw [e]; exact if_pos rfl⟩
  · exact Or.inr ⟨e, hj, if_neg e⟩
theorem lat_rev {r : List Nat} {e j : Nat} (hl : r.length ≤ 64) (hj : j < (lat 64 r e).reverse.length) : (lat 64 r e).reverse.getD j 0 = if j = 0 then e else r.reverse.getD (j - 1) 0 := by
  unfold lat at hj ⊢
  by_cases h : r.length < 64
  · rw [if_pos h, List.reverse_append] at hj ⊢
    cases j with
    | zero => rfl
    | succ j => simp [List.getD]
  · rw [if_neg h, if_neg (by decide), List.reverse_append] at hj ⊢
    cases j with
    | zero => rfl
    | succ j =>
      simp only [List.reverse_cons, List.reverse_nil, List.nil_append, List.cons_append, List.length_cons, List.length_reverse, List.length_tail] at hj
      simp only [List.reverse_cons, List.reverse_nil, List.nil_append, List.cons_append, List.getD_cons_succ, Nat.add_sub_cancel, Nat.add_one_ne_zero, if_false]
      rw [show r.tail.reverse = r.reverse.dropLast by cases r <;> simp]
      simp only [List.getD, List.getElem?_dropLast]
      rw [if_pos (by rw [List.length_reverse]; omega)]
theorem lat40 {r : List Nat} {e : Nat} (h : r.length < 40) : lat 40 r e = r ++ [e] := if_pos h
theorem lat40f {r : List Nat} {e : Nat} (h : r.length = 40) : lat 40 r e = r.tail ++ [e] := by
  unfold lat
  rw [if_neg (by omega), if_neg (by decide)]
theorem lat_ln {cap : Nat} {r : List Nat} {e : Nat} (h0 : 0 < cap) : (lat cap r e).length = if r.length < cap then r.length + 1 else r.length - 1 + 1 := by
  unfold lat
  split
  · simp
  · rw [if_neg (by omega)]
    simp
set_option maxRecDepth 20000 in
set_option maxHeartbeats 2000000 in
theorem k_X12_counts {d k : Nat} {s : DS} (hk : k < 9) (hc : dC s k < 65536) : CA mX12_counts [.ref d, .int (nI k)] [rdv d s] (fun x K => x = none ∧ K = [rdv d (ctD s k)]) 0 0 0 0 := by
  refine CA.mk 0 (ls := [some (.ref d), some (.int (nI k))]) rfl rfl (Nat.le_of_ble_eq_true rfl) rfl (fun h hL => ?_)
  obtain ⟨A, hL⟩ := rdv_oc hL
  have hL : stars [pt d (.inr (10, rdF A s)), iar (A 30) 9 (tbl 9 (dC s)), rRc A s] h := hL
  refine e_aload_n 1 dX12_counts_0 rfl rfl ?_
  refine e_get 4 dX12_counts_1 rfl fl_X12_65_10 (stars_at _ 0 hL rfl) rfl ?_
  refine e_iload_n 5 dX12_counts_4 rfl rfl ?_
  refine e_aload_n 6 dX12_counts_5 rfl rfl ?_
  refine e_get 9 dX12_counts_6 rfl fl_X12_65_10 (stars_at _ 0 hL rfl) rfl ?_
  refine e_iload_n 10 dX12_counts_9 rfl rfl ?_
  refine v_iald 11 (iar_V _ 1 hL rfl) (k := k) (x := (dC s k)) dX12_counts_10 rfl (by rw [tbl_len]; omega) (by omega) (tbl_at (by omega)) ?_
  refine e_iconst 12 (v := (nI 1)) dX12_counts_11 rfl (by decide) ?_
  refine e_iadd 13 (v := (nI ((dC s k) + 1))) dX12_counts_12 rfl (nI_add (dC s k) 1) ?_
  refine e_ldc 15 (v := (nI 65536)) dX12_counts_13 rfl cn_X12_74 ?_
  refine e_irem 16 (v := (nI ((dC s k + 1) % 2 ^ 16))) dX12_counts_15 rfl (by decide) (pk_rem (by omega) (by decide) (by decide)) ?_
  refine p_iastR 17 hL 1 (r := (tbl 9 (dC s))) (r' := (tbl 9 (upN (dC s) k ((dC s k + 1) % 2 ^ 16)))) (k := k) (v := ((dC s k + 1) % 2 ^ 16)) (L' := [pt d (.inr (10, rdF A s)), iar (A 30) 9 (tbl 9 (upN (dC s) k ((dC s k + 1) % 2 ^ 16))), rRc A s]) rfl dX12_counts_16 rfl (by omega) (by omega) (iw_tbl (by decide) hk) rfl (fun h hL => ?_)
  have hL : stars [rdv d (ctD s k)] h := rdv_cc (s := s) (A := A) (fs' := rdF A s) (ct := cUp (dC s) k) rfl hL
  exact e_vret dX12_counts_17 rfl (by omega) (by omega) (⟨_, ⟨rfl, rfl⟩, hL⟩)
theorem unshift {g f : Nat → Int32} {i : Nat} (h1 : ∀ j, j ≤ i → g j = f j) (h2 : ∀ j, i < j → j < 64 → g j = f (j - 1)) (hi : 1 ≤ i) : (∀ j, j ≤ i - 1 → upd g i (g (i - 1)) j = f j) ∧ ∀ j, i - 1 < j → j < 64 → upd g i (g (i - 1)) j = f (j - 1) := by
  refine ⟨fun j hj => ?_, fun j hj hj2 => ?_⟩
  · rw [pk_un (by omega)]; exact h1 j (by omega)
  · by_cases e : j = i
    · subst e; rw [pk_us]; exact h1 _ (by omega)
    · rw [pk_un e]; exact h2 j (by omega) hj2
theorem tel_ok {r : List Nat} {f g : Nat → Int32} {e : Nat} (hl : r.length ≤ 64) (hf : ∀ i, i < r.reverse.length → f i = nI (r.reverse.getD i 0)) (h2 : ∀ j, 0 < j → j < 64 → g j = f (j - 1)) : (lat 64 r e).reverse.length ≤ 64 ∧ ∀ i, i < (lat 64 r e).reverse.length → upd g 0 (nI e) i = nI ((lat 64 r e).reverse.getD i 0) := by
  have hll := lat_ln (cap := 64) (r := r) (e := e) (by decide)
  rw [List.length_reverse]
  refine ⟨by rw [hll]; split <;> omega, fun i hi => ?_⟩
  rw [lat_rev hl (by rw [List.length_reverse]; exact hi)]
  by_cases z : i = 0
  · rw [z, pk_us, if_pos rfl]
  · rw [pk_un z, if_neg z]
    have hb : i < 64 ∧ i - 1 < r.length := by
      rw [hll] at hi
      split at hi <;> omega
    rw [h2 i (by omega) hb.1, hf (i - 1) (by rw [List.length_reverse]; exact hb.2)]
theorem pk_dec {i : Nat} (h : 1 ≤ i) : nI i + -1 = nI (i - 1) := by
  obtain ⟨j, rfl⟩ : ∃ j, i = j + 1 := ⟨i - 1, by omega⟩
  rw [Nat.add_sub_cancel, ← nI_add j 1, Int32.add_assoc, show nI 1 + -1 = 0 from by decide, Int32.add_zero]
set_option maxRecDepth 20000 in
set_option maxHeartbeats 2000000 in
theorem l_X12_tells {d e : Nat} {s : DS} {A : Nat → Nat} {f : Nat → Int32} (hl : (dL s 5).length ≤ 64) (hf : ∀ i, i < (dL s 5).reverse.length → f i = nI ((dL s 5).reverse.getD i 0)) : ∀ (n : Nat) (i : Nat) (g : Nat → Int32) (h : eH), i < n → i < 64 → (∀ j, j ≤ i → g j = f j) → (∀ j, i < j → j < 64 → g j = f (j - 1)) → stars [pt d (.inr (10, rdF A s)), pt (A 32) (.inl (0, 64, .inl g)), rRe A s] h → EE mX12_tells 0 0 0 0 (fun x h' => ∃ K, (x = none ∧ K = [rdv d (evD s e)]) ∧ stars K h') 3 [some (.ref d), some (.int (nI e)), some (.int (nI i))] [] h 0 0 := by
  intro n
  induction n with
  | zero => intro i g h hlt hi h1 h2 hL; exact absurd hlt (by omega)
  | succ n ih =>
    intro i g h hlt hi h1 h2 hL
    refine e_iload_n 4 dX12_tells_3 rfl rfl ?_
    refine e_if_le 27 7 dX12_tells_4 rfl rfl (fun c4 => ?_) (fun c4 => ?_)
    · have k4 := j_le0_t (a := i) (by omega) c4
      refine e_aload_n 28 dX12_tells_27 rfl rfl ?_
      refine e_get 31 dX12_tells_28 rfl fl_X12_68_10 (stars_at _ 0 hL rfl) rfl ?_
      refine e_iconst 32 (v := (nI 0)) dX12_tells_31 rfl (by decide) ?_
      refine e_iload_n 33 dX12_tells_32 rfl rfl ?_
      refine p_iast 34 hL 1 (k := 0) (L' := [pt d (.inr (10, rdF A s)), pt (A 32) (.inl (0, 64, .inl (upd g 0 (nI e)))), rRe A s]) rfl rfl dX12_tells_33 rfl (vp_in_nI (by omega) (by omega)) (nI_clamp (by omega)) (fun h hL => ?_)
      have i0 : i = 0 := by omega
      subst i0
      have hL : stars [pt (A 32) (.inl (0, 64, .inl (upd g 0 (nI e)))), pt d (.inr (10, rdF A s)), rRe A s] h := stars_ixn hL 3 rfl [1, 0, 2] (by decide) rfl
      have hL : stars [iar (A 32) 64 ((lat 64 (dL s 5) e).reverse), pt d (.inr (10, rdF A s)), rRe A s] h := iar_of (tel_ok hl hf (fun j h3 h4 => h2 j h3 h4)) hL
      refine e_aload_n 35 dX12_tells_34 rfl rfl ?_
      refine e_get 38 dX12_tells_35 rfl fl_X12_75_10 (stars_at _ 1 hL rfl) rfl ?_
      refine e_bipush 40 (v := (nI 64)) dX12_tells_38 rfl (by decide) ?_
      refine e_icmp_ge 53 43 dX12_tells_40 rfl rfl (fun c40 => ?_) (fun c40 => ?_)
      · have k40 := j_ge_t (a := (dL s 5).length) (b := 64) (by omega) (by omega) c40
        have hL : stars [pt d (.inr (10, rdF A s)), iar (A 32) 64 ((lat 64 (dL s 5) e).reverse), rRe A s] h := stars_ixn hL 3 rfl [1, 0, 2] (by decide) rfl
        have hL : stars [rdv d (evD s e)] h := rdv_ce (s := s) (A := A) (fs' := rdF A s) (r := lat 64 (dL s 5) e) (congrArg (fun n => (rdF A s).set 31 (.int (nI n))) (show (lat 64 (dL s 5) e).length = (dL s 5).length by rw [lat_ln (by decide), if_neg (by omega)]; omega)) hL
        exact e_vret dX12_tells_53 rfl (by omega) (by omega) (⟨_, ⟨rfl, rfl⟩, hL⟩)
      · have k40 := j_ge_f (a := (dL s 5).length) (b := 64) (by omega) (by omega) c40
        refine e_aload_n 44 dX12_tells_43 rfl rfl ?_
        refine e_dup 45 dX12_tells_44 rfl rfl ?_
        refine e_get 48 dX12_tells_45 rfl fl_X12_75_10 (stars_at _ 1 hL rfl) rfl ?_
        refine e_iconst 49 (v := (nI 1)) dX12_tells_48 rfl (by decide) ?_
        refine e_iadd 50 (v := (nI ((dL s 5).length + 1))) dX12_tells_49 rfl (nI_add ((dL s 5).length) 1) ?_
        refine p_put 53 hL 1 (fs' := (rdF A s).set 31 (.int (nI ((dL s 5).length + 1)))) (L' := [iar (A 32) 64 ((lat 64 (dL s 5) e).reverse), pt d (.inr (10, (rdF A s).set 31 (.int (nI ((dL s 5).length + 1))))), rRe A s]) rfl rfl dX12_tells_50 rfl fp_X12_75_10 (Or.inl rfl) (Nat.le_of_ble_eq_true rfl) rfl rfl rfl (fun h hL => ?_)
        have hL : stars [pt d (.inr (10, (rdF A s).set 31 (.int (nI ((dL s 5).length + 1))))), iar (A 32) 64 ((lat 64 (dL s 5) e).reverse), rRe A s] h := stars_ixn hL 3 rfl [1, 0, 2] (by decide) rfl
        have hL : stars [rdv d (evD s e)] h := rdv_ce (s := s) (A := A) (fs' := (rdF A s).set 31 (.int (nI ((dL s 5).length + 1)))) (r := lat 64 (dL s 5) e) (congrArg (fun n => (rdF A s).set 31 (.int (nI n))) (show (lat 64 (dL s 5) e).length = (dL s 5).length + 1 by rw [lat_ln (by decide), if_pos (by omega)])) hL
        exact e_vret dX12_tells_53 rfl (by omega) (by omega) (⟨_, ⟨rfl, rfl⟩, hL⟩)
    · have k4 := j_le0_f (a := i) (by omega) c4
      refine e_aload_n 8 dX12_tells_7 rfl rfl ?_
      refine e_get 11 dX12_tells_8 rfl fl_X12_68_10 (stars_at _ 0 hL rfl) rfl ?_
      refine e_iload_n 12 dX12_tells_11 rfl rfl ?_
      refine e_aload_n 13 dX12_tells_12 rfl rfl ?_
      refine e_get 16 dX12_tells_13 rfl fl_X12_68_10 (stars_at _ 0 hL rfl) rfl ?_
      refine e_iload_n 17 dX12_tells_16 rfl rfl ?_
      refine e_iconst 18 (v := (nI 1)) dX12_tells_17 rfl (by decide) ?_
      refine e_isub 19 (v := (nI (i - 1))) dX12_tells_18 rfl (pk_sub (by omega)) ?_
      refine e_iald 20 (v := (g (i - 1))) dX12_tells_19 rfl (stars_at _ 1 hL rfl) (vp_in_nI (by omega) (by omega)) (congrArg g (nI_clamp (by omega))) ?_
      refine p_iast 21 hL 1 (k := i) (L' := [pt d (.inr (10, rdF A s)), pt (A 32) (.inl (0, 64, .inl (upd g i (g (i - 1))))), rRe A s]) rfl rfl dX12_tells_20 rfl (vp_in_nI (by omega) (by omega)) (nI_clamp (by omega)) (fun h hL => ?_)
      refine e_iinc 24 (v := (nI (i - 1))) (ls' := [some (.ref d), some (.int (nI e)), some (.int (nI (i - 1)))]) dX12_tells_21 rfl rfl (pk_dec (by omega)) (by decide) rfl ?_
      refine e_goto 3 dX12_tells_24 rfl ?_
      have us := unshift h1 h2 (by omega)
      refine e_wk [some (.ref d), some (.int (nI e)), some (.int (nI (i - 1)))] ⟨rfl, rfl, rfl, trivial⟩ ?_
      exact ih (i - 1) _ h (by omega) (by omega) us.1 us.2 hL
set_option maxRecDepth 20000 in
set_option maxHeartbeats 2000000 in
theorem k_X12_tells {d e : Nat} {s : DS} (hl : (dL s 5).length ≤ 64) : CA mX12_tells [.ref d, .int (nI e)] [rdv d s] (fun x K => x = none ∧ K = [rdv d (evD s e)]) 0 0 0 0 := by
  refine CA.mk 1 (ls := [some (.ref d), some (.int (nI e)), none]) rfl rfl (Nat.le_of_ble_eq_true rfl) rfl (fun h hL => ?_)
  refine e_bipush 2 (v := (nI 63)) dX12_tells_0 rfl (by decide) ?_
  refine e_istore_n 3 (ls' := [some (.ref d), some (.int (nI e)), some (.int (nI 63))]) dX12_tells_2 rfl (by decide) rfl ?_
  obtain ⟨A, hL⟩ := rdv_oe hL
  have hL : stars [pt d (.inr (10, rdF A s)), iar (A 32) 64 ((dL s 5).reverse), rRe A s] h := hL
  have hL : stars [iar (A 32) 64 ((dL s 5).reverse), pt d (.inr (10, rdF A s)), rRe A s] h := stars_ixn hL 3 rfl [1, 0, 2] (by decide) rfl
  obtain ⟨f, ⟨hlf, hcf⟩, hL⟩ := iar_raw hL
  have hL : stars [pt (A 32) (.inl (0, 64, .inl f)), pt d (.inr (10, rdF A s)), rRe A s] h := hL
  have hL : stars [pt d (.inr (10, rdF A s)), pt (A 32) (.inl (0, 64, .inl f)), rRe A s] h := stars_ixn hL 3 rfl [1, 0, 2] (by decide) rfl
  exact l_X12_tells hl hcf _ 63 f h (Nat.lt_succ_self _) (by decide) (fun j _ => rfl) (fun j h3 h4 => absurd h4 (by omega)) hL
set_option maxRecDepth 20000 in
set_option maxHeartbeats 2000000 in
theorem u_placeG {d k x a9 a10 : Nat} {bf pl : Nat → Nat} {fs : List Value} {h : eH} (h0 : h d = some (.inr (10, fs))) (e9 : fs[9]? = some (.ref a9)) (e10 : fs[10]? = some (.ref a10)) (v9 : iaR a9 4 (tbl 4 bf) h) (v10 : iaR a10 4 (tbl 4 pl) h) (hb : bf k + pl k ≤ 65536) (hk : k < 4) (hx : x < 2 ^ 31) : PC mX12_place [.ref d, .int (nI k), .int (nI x)] h (some (.int (if bf k ≤ x ∧ x < bf k + pl k then nI (x - bf k) else -1))) 0 0 := by
  refine PC.mk 0 (ls := [some (.ref d), some (.int (nI k)), some (.int (nI x))]) rfl rfl (Nat.le_of_ble_eq_true rfl) rfl ?_
  refine e_iload_n 1 dX12_place_0 rfl rfl ?_
  refine e_aload_n 2 dX12_place_1 rfl rfl ?_
  refine e_get 5 dX12_place_2 rfl fl_X12_16_10 h0 e9 ?_
  refine e_iload_n 6 dX12_place_5 rfl rfl ?_
  refine v_iald 7 v9 (k := k) (x := (bf k)) dX12_place_6 rfl (by simp only [tbl_len, kys_len, szs_len, List.length_reverse] <;> omega) (by omega) (tbl_at (by omega)) ?_
  refine e_icmp_lt 38 10 dX12_place_7 rfl rfl (fun c7 => ?_) (fun c7 => ?_)
  · have k7 := j_lt_t (a := x) (b := (bf k)) (by omega) (by omega) c7
    refine e_iconst 39 (v := (-1)) dX12_place_38 rfl (by decide) ?_
    exact e_iret dX12_place_39 rfl (by omega) (by omega) (⟨by rw [if_neg (by omega)], rfl⟩)
  · have k7 := j_lt_f (a := x) (b := (bf k)) (by omega) (by omega) c7
    refine e_iload_n 11 dX12_place_10 rfl rfl ?_
    refine e_aload_n 12 dX12_place_11 rfl rfl ?_
    refine e_get 15 dX12_place_12 rfl fl_X12_16_10 h0 e9 ?_
    refine e_iload_n 16 dX12_place_15 rfl rfl ?_
    refine v_iald 17 v9 (k := k) (x := (bf k)) dX12_place_16 rfl (by simp only [tbl_len, kys_len, szs_len, List.length_reverse] <;> omega) (by omega) (tbl_at (by omega)) ?_
    refine e_aload_n 18 dX12_place_17 rfl rfl ?_
    refine e_get 21 dX12_place_18 rfl fl_X12_20_10 h0 e10 ?_
    refine e_iload_n 22 dX12_place_21 rfl rfl ?_
    refine v_iald 23 v10 (k := k) (x := (pl k)) dX12_place_22 rfl (by simp only [tbl_len, kys_len, szs_len, List.length_reverse] <;> omega) (by omega) (tbl_at (by omega)) ?_
    refine e_iadd 24 (v := (nI ((bf k) + (pl k)))) dX12_place_23 rfl (nI_add (bf k) (pl k)) ?_
    refine e_icmp_ge 38 27 dX12_place_24 rfl rfl (fun c24 => ?_) (fun c24 => ?_)
    · have k24 := j_ge_t (a := x) (b := ((bf k) + (pl k))) (by omega) (by omega) c24
      refine e_iconst 39 (v := (-1)) dX12_place_38 rfl (by decide) ?_
      exact e_iret dX12_place_39 rfl (by omega) (by omega) (⟨by rw [if_neg (by omega)], rfl⟩)
    · have k24 := j_ge_f (a := x) (b := ((bf k) + (pl k))) (by omega) (by omega) c24
      refine e_iload_n 28 dX12_place_27 rfl rfl ?_
      refine e_aload_n 29 dX12_place_28 rfl rfl ?_
      refine e_get 32 dX12_place_29 rfl fl_X12_16_10 h0 e9 ?_
      refine e_iload_n 33 dX12_place_32 rfl rfl ?_
      refine v_iald 34 v9 (k := k) (x := (bf k)) dX12_place_33 rfl (by simp only [tbl_len, kys_len, szs_len, List.length_reverse] <;> omega) (by omega) (tbl_at (by omega)) ?_
      refine e_isub 35 (v := (nI (x - bf k))) dX12_place_34 rfl (pk_sub (by omega)) ?_
      refine e_goto 39 dX12_place_35 rfl ?_
      exact e_iret dX12_place_39 rfl (by omega) (by omega) (⟨by rw [if_pos (by omega)], rfl⟩)
theorem u_placeT {d k x a9 a10 : Nat} {bf pl : Nat → Nat} {fs : List Value} {h : eH} (h0 : h d = some (.inr (10, fs))) (e9 : fs[9]? = some (.ref a9)) (e10 : fs[10]? = some (.ref a10)) (v9 : iaR a9 4 (tbl 4 bf) h) (v10 : iaR a10 4 (tbl 4 pl) h) (hb : bf k + pl k ≤ 65536) (hk : k < 4) (hx : x < 2 ^ 31) (hr : bf k ≤ x ∧ x < bf k + pl k) : PC mX12_place [.ref d, .int (nI k), .int (nI x)] h (some (.int (nI (x - bf k)))) 0 0 := by
  have := u_placeG h0 e9 e10 v9 v10 hb hk hx
  rwa [if_pos hr] at this
set_option maxRecDepth 20000 in
set_option maxHeartbeats 2000000 in
theorem k_X12_put {d k a x : Nat} {s : DS} (ho : (dL s k).length ≤ 400 ∧ dF s k + (dL s k).length ≤ 65536) (hk : k < 4) (hr : dF s k ≤ a ∧ a < dF s k + (dL s k).length) : CA mX12_put [.ref d, .int (nI k), .int (nI a), .int (nI x)] [rdv d s] (fun x9 K => x9 = none ∧ K = [rdv d (puD s k (a - dF s k) x)]) 1 22 0 0 := by
  refine CA.mk 0 (ls := [some (.ref d), some (.int (nI k)), some (.int (nI a)), some (.int (nI x))]) rfl rfl (Nat.le_of_ble_eq_true rfl) rfl (fun h hL => ?_)
  obtain ⟨A, hL⟩ := rdv_oB hL
  have hL : stars [pt d (.inr (10, rdF A s)), grd (A 8) 4 400 (qd4 (dL s 0) (dL s 1) (dL s 2) (dL s 3)), iar (A 9) 4 (tbl 4 (dF s)), iar (A 10) 4 ([(dL s 0).length, (dL s 1).length, (dL s 2).length, (dL s 3).length]), rRB A s] h := hL
  have hL : stars [grd (A 8) 4 400 (qd4 (dL s 0) (dL s 1) (dL s 2) (dL s 3)), pt d (.inr (10, rdF A s)), iar (A 9) 4 (tbl 4 (dF s)), iar (A 10) 4 ([(dL s 0).length, (dL s 1).length, (dL s 2).length, (dL s 3).length]), rRB A s] h := stars_ixn hL 5 rfl [1, 0, 2, 3, 4] (by decide) rfl
  obtain ⟨b8, R8, hL, hR8, hC8⟩ := grd_at (i := k) hk hL
  have hL : stars [iar b8 400 ((qd4 (dL s 0) (dL s 1) (dL s 2) (dL s 3)) k), R8, pt d (.inr (10, rdF A s)), iar (A 9) 4 (tbl 4 (dF s)), iar (A 10) 4 ([(dL s 0).length, (dL s 1).length, (dL s 2).length, (dL s 3).length]), rRB A s] h := hL
  rw [qd4_at (f := dL s) hk] at hL
  have hL : stars [iar b8 400 (dL s k), R8, pt d (.inr (10, rdF A s)), iar (A 9) 4 (tbl 4 (dF s)), iar (A 10) 4 ([(dL s 0).length, (dL s 1).length, (dL s 2).length, (dL s 3).length]), rRB A s] h := hL
  refine e_aload_n 1 dX12_put_0 rfl rfl ?_
  refine e_get 4 dX12_put_1 rfl fl_X12_11_10 (stars_at _ 2 hL rfl) rfl ?_
  refine e_iload_n 5 dX12_put_4 rfl rfl ?_
  refine v_aaldP 6 (grP_V _ 1 hL rfl hR8) dX12_put_5 rfl (by omega) (by omega) ?_
  refine e_aload_n 7 dX12_put_6 rfl rfl ?_
  refine e_iload_n 8 dX12_put_7 rfl rfl ?_
  refine e_iload_n 9 dX12_put_8 rfl rfl ?_
  refine u_callV 12 dX12_put_9 rfl cv_X12_79 (stars_at _ 2 hL rfl) (u_placeT (pl := fun k => (dL s k).length) (stars_at _ 2 hL rfl) rfl rfl (iar_V _ 3 hL rfl) (iar_V _ 4 hL rfl) (by omega) hk (by omega) hr) rfl rfl (Nat.le_of_ble_eq_true rfl) (by decide) ⟨by omega, by omega⟩ ?_
  refine e_iload_n 13 dX12_put_12 rfl rfl ?_
  refine p_iastR 14 hL 0 (r := (dL s k)) (r' := ((dL s k).set (a - dF s k) x)) (k := (a - dF s k)) (v := x) (L' := [iar b8 400 ((dL s k).set (a - dF s k) x), R8, pt d (.inr (10, rdF A s)), iar (A 9) 4 (tbl 4 (dF s)), iar (A 10) 4 ([(dL s 0).length, (dL s 1).length, (dL s 2).length, (dL s 3).length]), rRB A s]) rfl dX12_put_13 rfl (by omega) (by omega) (iw_set (by omega) (by omega)) rfl (fun h hL => ?_)
  have hL : stars [grd (A 8) 4 400 (upL (qd4 (dL s 0) (dL s 1) (dL s 2) (dL s 3)) k ((dL s k).set (a - dF s k) x)), pt d (.inr (10, rdF A s)), iar (A 9) 4 (tbl 4 (dF s)), iar (A 10) 4 ([(dL s 0).length, (dL s 1).length, (dL s 2).length, (dL s 3).length]), rRB A s] h := hC8 _ _ _ hL
  have hL : stars [pt d (.inr (10, rdF A s)), grd (A 8) 4 400 (upL (qd4 (dL s 0) (dL s 1) (dL s 2) (dL s 3)) k ((dL s k).set (a - dF s k) x)), iar (A 9) 4 (tbl 4 (dF s)), iar (A 10) 4 ([(dL s 0).length, (dL s 1).length, (dL s 2).length, (dL s 3).length]), rRB A s] h := stars_ixn hL 5 rfl [1, 0, 2, 3, 4] (by decide) rfl
  have hL : stars [rdv d (puD s k (a - dF s k) x)] h := rdv_cb hk (by rw [List.length_set]) hL
  exact e_vret dX12_put_14 rfl (by omega) (by omega) (⟨_, ⟨rfl, rfl⟩, hL⟩)
