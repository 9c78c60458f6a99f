def gI (r : List Nat) (k : Int32) : Int32 := if k < 0 ∨ nI r.length ≤ k then -1 else nI (r.getD k.toNatClampNeg 0)
def wd (r : List Nat) (k : Nat) : Nat := if k + 1 < r.length then r.getD k 0 * 256 + r.getD (k + 1) 0 else 0
theorem j_sub1 {n k : Nat} (hn : n < 2 ^ 30) (hk : k < 2 ^ 30) : nI n - nI 1 ≤ nI k ↔ n ≤ k + 1 := by
  rw [Int32.le_iff_toInt_le, pk_sub_toInt hn (by decide), nI_toInt (by omega)]
  omega
theorem rwAt.set {h : eH} {a c cap v k : Nat} {r : List Nat} {f : Nat → Int32} (ha : h a = some (.inr (4, [.ref c, .int (nI r.length)]))) (hc : h c = some (.inl (0, cap, .inl f))) (hn : r.length ≤ cap) (hcap : cap < 65536) (hf : ∀ i, i < r.length → f i = nI (r.getD i 0)) : rwAt (e_up h c (.inl (0, cap, .inl (upd f k (nI v))))) a c cap (r.set k v) := by
  refine ⟨upd f k (nI v), ?_, e_up_s, ?_, hcap, ?_⟩
  · rw [e_up_n (e_ne_oa ha hc), List.length_set]; exact ha
  · rw [List.length_set]; exact hn
  · intro i hi
    rw [List.length_set] at hi
    by_cases e : i = k
    · subst e
      rw [pk_us]
      simp [List.getD, hi]
    · rw [pk_un e, hf i hi]
      simp [List.getD, List.getElem?_set_ne (Ne.symm e)]
theorem rwAt.cut {h : eH} {a c cap k : Nat} {r : List Nat} {f : Nat → Int32} (ha : h a = some (.inr (4, [.ref c, .int (nI r.length)]))) (hc : h c = some (.inl (0, cap, .inl f))) (hn : r.length ≤ cap) (hcap : cap < 65536) (hf : ∀ i, i < r.length → f i = nI (r.getD i 0)) (hk : k ≤ r.length) : rwAt (e_up h a (.inr (4, [.ref c, .int (nI k)]))) a c cap (r.take k) := by
  have e : (r.take k).length = k := by rw [List.length_take]; omega
  refine ⟨f, ?_, ?_, ?_, hcap, ?_⟩
  · rw [e_up_s, e]
  · rw [e_up_n (e_ne_ao hc ha)]; exact hc
  · rw [e]; omega
  · intro i hi
    rw [e] at hi
    rw [hf i (by omega)]
    simp [List.getD, List.getElem?_take, hi]
theorem rwAt.push2 {h : eH} {a c cap v w : Nat} {r : List Nat} {f : Nat → Int32} (ha : h a = some (.inr (4, [.ref c, .int (nI r.length)]))) (hc : h c = some (.inl (0, cap, .inl f))) (hlt : r.length + 1 < cap) (hcap : cap < 65536) (hf : ∀ i, i < r.length → f i = nI (r.getD i 0)) : rwAt (e_up (e_up (e_up h c (.inl (0, cap, .inl (upd f r.length (nI v))))) c (.inl (0, cap, .inl (upd (upd f r.length (nI v)) (r.length + 1) (nI w))))) a (.inr (4, [.ref c, .int (nI (r.length + 2))]))) a c cap (r ++ [v, w]) := by
  refine ⟨upd (upd f r.length (nI v)) (r.length + 1) (nI w), ?_, ?_, ?_, hcap, ?_⟩
  · rw [e_up_s, List.length_append]; rfl
  · rw [e_up_n (e_ne_ao hc ha), e_up_s]
  · rw [List.length_append]; show r.length + 2 ≤ cap; omega
  · intro i hi
    rw [List.length_append] at hi
    have hi2 : i < r.length + 2 := hi
    by_cases e : i = r.length + 1
    · subst e
      rw [pk_us]
      simp [List.getD, List.getElem?_append_right]
    · rw [pk_un e]
      by_cases e2 : i = r.length
      · subst e2
        rw [pk_us]
        simp [List.getD, List.getElem?_append_right]
      · have h2 : i < r.length := by omega
        rw [pk_un e2, hf i h2]
        simp [List.getD, List.getElem?_append_left h2]
set_option maxRecDepth 20000 in
set_option maxHeartbeats 1000000 in
/-- at(k): the number there, 0 beyond -/
theorem c_X4_at {h : eH} {a c cap : Nat} {r : List Nat} (hr : rwAt h a c cap r) {k : Nat} (hk : k < 2 ^ 31) : Ct mX4_at [.ref a, .int (nI k)] h (fun x h' => x = some (.int (nI (r.getD k 0))) ∧ h' = h) 0 0 0 0 := by
  obtain ⟨f, ha, hc, hn, hcap, hf⟩ := hr
  refine Ct.mk 0 (ls := [some (.ref a), some (.int (nI k))]) rfl rfl (Nat.le_of_ble_eq_true rfl) rfl ?_
  refine e_iload_n 1 dX4_at_0 rfl rfl ?_
  refine e_if_lt 21 4 dX4_at_1 rfl rfl (fun c1 => absurd c1 (nI_pos (by omega))) (fun c1 => ?_)
  refine e_iload_n 5 dX4_at_4 rfl rfl ?_
  refine e_aload_n 6 dX4_at_5 rfl rfl ?_
  refine e_get 9 dX4_at_6 rfl fl_X4_15_4 ha rfl ?_
  refine e_icmp_ge 21 12 dX4_at_9 rfl rfl (fun c9 => ?_) (fun c9 => ?_)
  · have k9 := j_ge_t (a := k) (b := r.length) (by omega) (by omega) c9
    refine e_iconst 22 (v := (nI 0)) dX4_at_21 rfl (by decide) ?_
    exact e_iret dX4_at_22 rfl (by omega) (by omega) (⟨by rw [gd_out (by omega)], rfl⟩)
  · have k9 := j_ge_f (a := k) (b := r.length) (by omega) (by omega) c9
    refine e_aload_n 13 dX4_at_12 rfl rfl ?_
    refine e_get 16 dX4_at_13 rfl fl_X4_9_4 ha rfl ?_
    refine e_iload_n 17 dX4_at_16 rfl rfl ?_
    refine e_iald 18 (v := (nI (r.getD k 0))) dX4_at_17 rfl hc (vp_in_nI (by omega) (by omega)) ((congrArg f (nI_clamp (by omega))).trans (hf _ (by omega))) ?_
    refine e_goto 22 dX4_at_18 rfl ?_
    exact e_iret dX4_at_22 rfl (by omega) (by omega) (⟨rfl, rfl⟩)
set_option maxRecDepth 20000 in
set_option maxHeartbeats 1000000 in
/-- orNone(k) -/
theorem c_X4_orNone {h : eH} {a c cap : Nat} {r : List Nat} (hr : rwAt h a c cap r) {k : Int32} : Ct mX4_orNone [.ref a, .int k] h (fun x h' => x = some (.int (gI r k)) ∧ h' = h) 0 0 0 0 := by
  obtain ⟨f, ha, hc, hn, hcap, hf⟩ := hr
  refine Ct.mk 0 (ls := [some (.ref a), some (.int k)]) rfl rfl (Nat.le_of_ble_eq_true rfl) rfl ?_
  refine e_iload_n 1 dX4_orNone_0 rfl rfl ?_
  refine e_if_lt 21 4 dX4_orNone_1 rfl rfl (fun c1 => ?_) (fun c1 => ?_)
  · refine e_iconst 22 (v := (-1)) dX4_orNone_21 rfl (by decide) ?_
    exact e_iret dX4_orNone_22 rfl (by omega) (by omega) (⟨by rw [gI, if_pos (by first | exact Or.inl (by assumption) | exact Or.inr (by assumption))], rfl⟩)
  · obtain ⟨k, hk, rfl⟩ := nI_of c1
    refine e_iload_n 5 dX4_orNone_4 rfl rfl ?_
    refine e_aload_n 6 dX4_orNone_5 rfl rfl ?_
    refine e_get 9 dX4_orNone_6 rfl fl_X4_15_4 ha rfl ?_
    refine e_icmp_ge 21 12 dX4_orNone_9 rfl rfl (fun c9 => ?_) (fun c9 => ?_)
    · have k9 := j_ge_t (a := k) (b := r.length) (by omega) (by omega) c9
      refine e_iconst 22 (v := (-1)) dX4_orNone_21 rfl (by decide) ?_
      exact e_iret dX4_orNone_22 rfl (by omega) (by omega) (⟨by rw [gI, if_pos (by first | exact Or.inl (by assumption) | exact Or.inr (by assumption))], rfl⟩)
    · have k9 := j_ge_f (a := k) (b := r.length) (by omega) (by omega) c9
      refine e_aload_n 13 dX4_orNone_12 rfl rfl ?_
      refine e_get 16 dX4_orNone_13 rfl fl_X4_9_4 ha rfl ?_
      refine e_iload_n 17 dX4_orNone_16 rfl rfl ?_
      refine e_iald 18 (v := (nI (r.getD k 0))) dX4_orNone_17 rfl hc (vp_in_nI (by omega) (by omega)) ((congrArg f (nI_clamp (by omega))).trans (hf _ (by omega))) ?_
      refine e_goto 22 dX4_orNone_18 rfl ?_
      exact e_iret dX4_orNone_22 rfl (by omega) (by omega) (⟨by rw [gI, if_neg (by rintro (z | z) <;> contradiction), nI_clamp (by omega)], rfl⟩)
set_option maxRecDepth 20000 in
set_option maxHeartbeats 1000000 in
/-- word(k): two bytes, 0 beyond -/
theorem c_X4_word {h : eH} {a c cap : Nat} {r : List Nat} (hr : rwAt h a c cap r) {k : Nat} (hk : k < 100000) : Ct mX4_word [.ref a, .int (nI k)] h (fun x h' => x = some (.int (nI (wd r k))) ∧ h' = h) 0 0 0 0 := by
  obtain ⟨f, ha, hc, hn, hcap, hf⟩ := hr
  refine Ct.mk 0 (ls := [some (.ref a), some (.int (nI k))]) rfl rfl (Nat.le_of_ble_eq_true rfl) rfl ?_
  refine e_iload_n 1 dX4_word_0 rfl rfl ?_
  refine e_if_lt 36 4 dX4_word_1 rfl rfl (fun c1 => absurd c1 (nI_pos (by omega))) (fun c1 => ?_)
  refine e_iload_n 5 dX4_word_4 rfl rfl ?_
  refine e_aload_n 6 dX4_word_5 rfl rfl ?_
  refine e_get 9 dX4_word_6 rfl fl_X4_15_4 ha rfl ?_
  refine e_iconst 10 (v := (nI 1)) dX4_word_9 rfl (by decide) ?_
  refine e_isub 11 (v := ((nI r.length) - (nI 1))) dX4_word_10 rfl rfl ?_
  refine e_icmp_ge 36 14 dX4_word_11 rfl rfl (fun c11 => ?_) (fun c11 => ?_)
  · have k11 : r.length ≤ k + 1 := (j_sub1 (by omega) (by omega)).mp c11
    refine e_iconst 37 (v := (nI 0)) dX4_word_36 rfl (by decide) ?_
    exact e_iret dX4_word_37 rfl (by omega) (by omega) (⟨by unfold wd; rw [if_neg (by omega)], rfl⟩)
  · have k11 : k + 1 < r.length := Nat.not_le.mp (fun z => c11 ((j_sub1 (by omega) (by omega)).mpr z))
    refine e_aload_n 15 dX4_word_14 rfl rfl ?_
    refine e_get 18 dX4_word_15 rfl fl_X4_9_4 ha rfl ?_
    refine e_iload_n 19 dX4_word_18 rfl rfl ?_
    refine e_iald 20 (v := (nI (r.getD k 0))) dX4_word_19 rfl hc (vp_in_nI (by omega) (by omega)) ((congrArg f (nI_clamp (by omega))).trans (hf _ (by omega))) ?_
    refine e_sipush 23 (v := (nI 256)) dX4_word_20 rfl (by decide) ?_
    refine e_imul 24 (v := (nI ((r.getD k 0) * 256))) dX4_word_23 rfl (pk_mul (r.getD k 0) 256) ?_
    refine e_aload_n 25 dX4_word_24 rfl rfl ?_
    refine e_get 28 dX4_word_25 rfl fl_X4_9_4 ha rfl ?_
    refine e_iload_n 29 dX4_word_28 rfl rfl ?_
    refine e_iconst 30 (v := (nI 1)) dX4_word_29 rfl (by decide) ?_
    refine e_iadd 31 (v := (nI (k + 1))) dX4_word_30 rfl (nI_add k 1) ?_
    refine e_iald 32 (v := (nI (r.getD (k + 1) 0))) dX4_word_31 rfl hc (vp_in_nI (by omega) (by omega)) ((congrArg f (nI_clamp (by omega))).trans (hf _ (by omega))) ?_
    refine e_iadd 33 (v := (nI (wd r k))) dX4_word_32 rfl (by rw [nI_add]; unfold wd; rw [if_pos (by omega)]) ?_
    refine e_goto 37 dX4_word_33 rfl ?_
    exact e_iret dX4_word_37 rfl (by omega) (by omega) (⟨rfl, rfl⟩)
set_option maxRecDepth 20000 in
set_option maxHeartbeats 1000000 in
/-- change(k, v) -/
theorem c_X4_change {h : eH} {a c cap : Nat} {r : List Nat} (hr : rwAt h a c cap r) {k v : Nat} (hk : k < 2 ^ 31) : Ct mX4_change [.ref a, .int (nI k), .int (nI v)] h (fun x h' => x = none ∧ rwAt h' a c cap (r.set k v) ∧ sm h h' [a, c]) 0 0 0 0 := by
  obtain ⟨f, ha, hc, hn, hcap, hf⟩ := hr
  refine Ct.mk 0 (ls := [some (.ref a), some (.int (nI k)), some (.int (nI v))]) rfl rfl (Nat.le_of_ble_eq_true rfl) rfl ?_
  refine e_iload_n 1 dX4_change_0 rfl rfl ?_
  refine e_if_lt 19 4 dX4_change_1 rfl rfl (fun c1 => absurd c1 (nI_pos (by omega))) (fun c1 => ?_)
  refine e_iload_n 5 dX4_change_4 rfl rfl ?_
  refine e_aload_n 6 dX4_change_5 rfl rfl ?_
  refine e_get 9 dX4_change_6 rfl fl_X4_15_4 ha rfl ?_
  refine e_icmp_ge 19 12 dX4_change_9 rfl rfl (fun c9 => ?_) (fun c9 => ?_)
  · have k9 := j_ge_t (a := k) (b := r.length) (by omega) (by omega) c9
    exact e_vret dX4_change_19 rfl (by omega) (by omega) (⟨rfl, by rw [List.set_eq_of_length_le (by omega)]; exact ⟨f, ha, hc, hn, hcap, hf⟩, sm.rf⟩)
  · have k9 := j_ge_f (a := k) (b := r.length) (by omega) (by omega) c9
    refine e_aload_n 13 dX4_change_12 rfl rfl ?_
    refine e_get 16 dX4_change_13 rfl fl_X4_9_4 ha rfl ?_
    refine e_iload_n 17 dX4_change_16 rfl rfl ?_
    refine e_iload_n 18 dX4_change_17 rfl rfl ?_
    refine e_iast' 19 (k := k) dX4_change_18 rfl hc (vp_in_nI (by omega) (by omega)) (nI_clamp (by omega)) ?_
    exact e_vret dX4_change_19 rfl (by omega) (by omega) (⟨rfl, rwAt.set ha hc hn hcap hf, sm.rf.up (by simp)⟩)
set_option maxRecDepth 20000 in
set_option maxHeartbeats 1000000 in
/-- add(v): behind the others, if there is room -/
theorem c_X4_add {h : eH} {a c cap : Nat} {r : List Nat} (hr : rwAt h a c cap r) {v : Nat} : Ct mX4_add [.ref a, .int (nI v)] h (fun x h' => x = none ∧ rwAt h' a c cap (if r.length < cap then r ++ [v] else r) ∧ sm h h' [a, c]) 0 0 0 0 := by
  obtain ⟨f, ha, hc, hn, hcap, hf⟩ := hr
  refine Ct.mk 0 (ls := [some (.ref a), some (.int (nI v))]) rfl rfl (Nat.le_of_ble_eq_true rfl) rfl ?_
  refine e_aload_n 1 dX4_add_0 rfl rfl ?_
  refine e_get 4 dX4_add_1 rfl fl_X4_15_4 ha rfl ?_
  refine e_aload_n 5 dX4_add_4 rfl rfl ?_
  refine e_get 8 dX4_add_5 rfl fl_X4_9_4 ha rfl ?_
  refine e_alen 9 (v := (nI cap)) dX4_add_8 rfl hc rfl rfl ?_
  refine e_icmp_ge 32 12 dX4_add_9 rfl rfl (fun c9 => ?_) (fun c9 => ?_)
  · have k9 := j_ge_t (a := r.length) (b := cap) (by omega) (by omega) c9
    exact e_vret dX4_add_32 rfl (by omega) (by omega) (⟨rfl, by rw [if_neg (by omega)]; exact ⟨f, ha, hc, hn, hcap, hf⟩, sm.rf⟩)
  · have k9 := j_ge_f (a := r.length) (b := cap) (by omega) (by omega) c9
    refine e_aload_n 13 dX4_add_12 rfl rfl ?_
    refine e_get 16 dX4_add_13 rfl fl_X4_9_4 ha rfl ?_
    refine e_aload_n 17 dX4_add_16 rfl rfl ?_
    refine e_get 20 dX4_add_17 rfl fl_X4_15_4 ha rfl ?_
    refine e_iload_n 21 dX4_add_20 rfl rfl ?_
    refine e_iast' 22 (k := r.length) dX4_add_21 rfl hc (vp_in_nI (by omega) (by omega)) (nI_clamp (by omega)) ?_
    refine e_aload_n 23 dX4_add_22 rfl rfl ?_
    refine e_dup 24 dX4_add_23 rfl rfl ?_
    refine e_get 27 dX4_add_24 rfl fl_X4_15_4 ((e_up_n (e_ne_oa ha hc)).trans ha) rfl ?_
    refine e_iconst 28 (v := (nI 1)) dX4_add_27 rfl (by decide) ?_
    refine e_iadd 29 (v := (nI (r.length + 1))) dX4_add_28 rfl (nI_add r.length 1) ?_
    refine e_put 32 (fs' := [.ref c, .int (nI (r.length + 1))]) dX4_add_29 rfl fp_X4_15_4 (Or.inl rfl) ((e_up_n (e_ne_oa ha hc)).trans ha) (Nat.le_of_ble_eq_true rfl) rfl rfl rfl ?_
    exact e_vret dX4_add_32 rfl (by omega) (by omega) (⟨rfl, by rw [if_pos k9]; exact rwAt.push ha hc k9 hcap hf, (sm.rf.up (by simp)).up (by simp)⟩)
set_option maxRecDepth 20000 in
set_option maxHeartbeats 1000000 in
/-- addWord(v) -/
theorem c_X4_addWord {h : eH} {a c cap : Nat} {r : List Nat} (hr : rwAt h a c cap r) {v : Nat} (hv : v < 65536) : Ct mX4_addWord [.ref a, .int (nI v)] h (fun x h' => x = none ∧ rwAt h' a c cap (if r.length + 1 < cap then r ++ [v / 2 ^ 8 % 2 ^ 8, v % 2 ^ 8] else r) ∧ sm h h' [a, c]) 0 0 0 0 := by
  obtain ⟨f, ha, hc, hn, hcap, hf⟩ := hr
  refine Ct.mk 0 (ls := [some (.ref a), some (.int (nI v))]) rfl rfl (Nat.le_of_ble_eq_true rfl) rfl ?_
  refine e_aload_n 1 dX4_addWord_0 rfl rfl ?_
  refine e_get 4 dX4_addWord_1 rfl fl_X4_15_4 ha rfl ?_
  refine e_iconst 5 (v := (nI 1)) dX4_addWord_4 rfl (by decide) ?_
  refine e_iadd 6 (v := (nI (r.length + 1))) dX4_addWord_5 rfl (nI_add r.length 1) ?_
  refine e_aload_n 7 dX4_addWord_6 rfl rfl ?_
  refine e_get 10 dX4_addWord_7 rfl fl_X4_9_4 ha rfl ?_
  refine e_alen 11 (v := (nI cap)) dX4_addWord_10 rfl hc rfl rfl ?_
  refine e_icmp_ge 57 14 dX4_addWord_11 rfl rfl (fun c11 => ?_) (fun c11 => ?_)
  · have k11 := j_ge_t (a := (r.length + 1)) (b := cap) (by omega) (by omega) c11
    exact e_vret dX4_addWord_57 rfl (by omega) (by omega) (⟨rfl, by rw [if_neg (by omega)]; exact ⟨f, ha, hc, hn, hcap, hf⟩, sm.rf⟩)
  · have k11 := j_ge_f (a := (r.length + 1)) (b := cap) (by omega) (by omega) c11
    refine e_aload_n 15 dX4_addWord_14 rfl rfl ?_
    refine e_get 18 dX4_addWord_15 rfl fl_X4_9_4 ha rfl ?_
    refine e_aload_n 19 dX4_addWord_18 rfl rfl ?_
    refine e_get 22 dX4_addWord_19 rfl fl_X4_15_4 ha rfl ?_
    refine e_iload_n 23 dX4_addWord_22 rfl rfl ?_
    refine e_bipush 25 (v := (nI 8)) dX4_addWord_23 rfl (by decide) ?_
    refine e_ishr 26 (v := (nI (v / 2 ^ 8))) dX4_addWord_25 rfl (pk_shrN (by omega) _ 8 (by decide)) ?_
    refine e_sipush 29 (v := (nI 255)) dX4_addWord_26 rfl (by decide) ?_
    refine e_iand 30 (v := (nI (v / 2 ^ 8 % 2 ^ 8))) dX4_addWord_29 rfl (pk_andN (by omega) 8 (by decide)) ?_
    refine e_iast' 31 (k := r.length) dX4_addWord_30 rfl hc (vp_in_nI (by omega) (by omega)) (nI_clamp (by omega)) ?_
    refine e_aload_n 32 dX4_addWord_31 rfl rfl ?_
    refine e_get 35 dX4_addWord_32 rfl fl_X4_9_4 ((e_up_n (e_ne_oa ha hc)).trans ha) rfl ?_
    refine e_aload_n 36 dX4_addWord_35 rfl rfl ?_
    refine e_get 39 dX4_addWord_36 rfl fl_X4_15_4 ((e_up_n (e_ne_oa ha hc)).trans ha) rfl ?_
    refine e_iconst 40 (v := (nI 1)) dX4_addWord_39 rfl (by decide) ?_
    refine e_iadd 41 (v := (nI (r.length + 1))) dX4_addWord_40 rfl (nI_add r.length 1) ?_
    refine e_iload_n 42 dX4_addWord_41 rfl rfl ?_
    refine e_sipush 45 (v := (nI 255)) dX4_addWord_42 rfl (by decide) ?_
    refine e_iand 46 (v := (nI (v % 2 ^ 8))) dX4_addWord_45 rfl (pk_andN (by omega) 8 (by decide)) ?_
    refine e_iast' 47 (k := (r.length + 1)) dX4_addWord_46 rfl e_up_s (vp_in_nI (by omega) (by omega)) (nI_clamp (by omega)) ?_
    refine e_aload_n 48 dX4_addWord_47 rfl rfl ?_
    refine e_dup 49 dX4_addWord_48 rfl rfl ?_
    refine e_get 52 dX4_addWord_49 rfl fl_X4_15_4 ((e_up_n (e_ne_oa ha hc)).trans ((e_up_n (e_ne_oa ha hc)).trans ha)) rfl ?_
    refine e_iconst 53 (v := (nI 2)) dX4_addWord_52 rfl (by decide) ?_
    refine e_iadd 54 (v := (nI (r.length + 2))) dX4_addWord_53 rfl (nI_add r.length 2) ?_
    refine e_put 57 (fs' := [.ref c, .int (nI (r.length + 2))]) dX4_addWord_54 rfl fp_X4_15_4 (Or.inl rfl) ((e_up_n (e_ne_oa ha hc)).trans ((e_up_n (e_ne_oa ha hc)).trans ha)) (Nat.le_of_ble_eq_true rfl) rfl rfl rfl ?_
    exact e_vret dX4_addWord_57 rfl (by omega) (by omega) (⟨rfl, by rw [if_pos k11]; exact rwAt.push2 ha hc k11 hcap hf, ((sm.rf.up (by simp)).up (by simp)).up (by simp)⟩)
set_option maxRecDepth 20000 in
set_option maxHeartbeats 1000000 in
/-- clear() -/
theorem c_X4_clear {h : eH} {a c cap : Nat} {r : List Nat} (hr : rwAt h a c cap r) : Ct mX4_clear [.ref a] h (fun x h' => x = none ∧ rwAt h' a c cap [] ∧ sm h h' [a, c]) 0 0 0 0 := by
  obtain ⟨f, ha, hc, hn, hcap, hf⟩ := hr
  refine Ct.mk 0 (ls := [some (.ref a)]) rfl rfl (Nat.le_of_ble_eq_true rfl) rfl ?_
  refine e_aload_n 1 dX4_clear_0 rfl rfl ?_
  refine e_iconst 2 (v := (nI 0)) dX4_clear_1 rfl (by decide) ?_
  refine e_put 5 (fs' := [.ref c, .int (nI 0)]) dX4_clear_2 rfl fp_X4_15_4 (Or.inl rfl) ha (Nat.le_of_ble_eq_true rfl) rfl rfl rfl ?_
  exact e_vret dX4_clear_5 rfl (by omega) (by omega) (⟨rfl, ⟨f, e_up_s, (e_up_n (e_ne_ao hc ha)).trans hc, Nat.zero_le _, hcap, fun i hi => absurd hi (Nat.not_lt_zero _)⟩, sm.rf.up (by simp)⟩)
set_option maxRecDepth 20000 in
set_option maxHeartbeats 1000000 in
/-- cut(k) -/
theorem c_X4_cut {h : eH} {a c cap : Nat} {r : List Nat} (hr : rwAt h a c cap r) {k : Nat} (hk : k < 2 ^ 31) : Ct mX4_cut [.ref a, .int (nI k)] h (fun x h' => x = none ∧ rwAt h' a c cap (r.take k) ∧ sm h h' [a, c]) 0 0 0 0 := by
  obtain ⟨f, ha, hc, hn, hcap, hf⟩ := hr
  refine Ct.mk 0 (ls := [some (.ref a), some (.int (nI k))]) rfl rfl (Nat.le_of_ble_eq_true rfl) rfl ?_
  refine e_iload_n 1 dX4_cut_0 rfl rfl ?_
  refine e_if_lt 17 4 dX4_cut_1 rfl rfl (fun c1 => absurd c1 (nI_pos (by omega))) (fun c1 => ?_)
  refine e_iload_n 5 dX4_cut_4 rfl rfl ?_
  refine e_aload_n 6 dX4_cut_5 rfl rfl ?_
  refine e_get 9 dX4_cut_6 rfl fl_X4_15_4 ha rfl ?_
  refine e_icmp_ge 17 12 dX4_cut_9 rfl rfl (fun c9 => ?_) (fun c9 => ?_)
  · have k9 := j_ge_t (a := k) (b := r.length) (by omega) (by omega) c9
    exact e_vret dX4_cut_17 rfl (by omega) (by omega) (⟨rfl, by rw [List.take_of_length_le (by omega)]; exact ⟨f, ha, hc, hn, hcap, hf⟩, sm.rf⟩)
  · have k9 := j_ge_f (a := k) (b := r.length) (by omega) (by omega) c9
    refine e_aload_n 13 dX4_cut_12 rfl rfl ?_
    refine e_iload_n 14 dX4_cut_13 rfl rfl ?_
    refine e_put 17 (fs' := [.ref c, .int (nI k)]) dX4_cut_14 rfl fp_X4_15_4 (Or.inl rfl) ha (Nat.le_of_ble_eq_true rfl) rfl rfl rfl ?_
    exact e_vret dX4_cut_17 rfl (by omega) (by omega) (⟨rfl, rwAt.cut ha hc hn hcap hf (by omega), sm.rf.up (by simp)⟩)
