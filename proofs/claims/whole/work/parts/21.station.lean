theorem stars_part : ∀ (L : List sA) (i : Nat) {P : sA} {h : eH}, stars L h → L[i]? = some P → ∃ h1, P h1 ∧ ∀ (b : Nat) (x : va_E), h1 b = some x → h b = some x
  | [], i, P, h, _, hi => by simp at hi
  | P :: L, 0, P', h, k, hi => by
    obtain ⟨h1, h2, hu, hj, p, q⟩ := k
    simp at hi
    subst hi
    exact ⟨h1, p, fun b x hx => by rw [← hu]; exact e_un_l hx⟩
  | P :: L, i + 1, P', h, k, hi => by
    obtain ⟨h1, h2, hu, hj, p, q⟩ := k
    obtain ⟨h3, p3, h9⟩ := stars_part L i q (by simpa using hi)
    refine ⟨h3, p3, fun b x hx => ?_⟩
    have h8 := h9 b x hx
    have : h1 b = none := (hj b).resolve_right (by rw [h8]; simp)
    rw [← hu, e_un_r this]
    exact h8
theorem row_at (L : List sA) (i : Nat) {a cap : Nat} {r : List Nat} {h : eH} (k : stars L h) (hi : L[i]? = some (row a cap r)) : ∃ c, h a = some (.inr (4, [.ref c, .int (nI r.length)])) := by
  obtain ⟨h1, ⟨c, ⟨f, ha, -⟩, -⟩, q⟩ := stars_part L i k hi
  exact ⟨c, q _ _ ha⟩
theorem row_len (L : List sA) (i : Nat) {a cap : Nat} {r : List Nat} {h : eH} (k : stars L h) (hi : L[i]? = some (row a cap r)) : r.length ≤ cap ∧ cap < 65536 := by
  obtain ⟨h1, ⟨c, ⟨f, ha, hc, h2, h3, -⟩, -⟩, q⟩ := stars_part L i k hi
  exact ⟨h2, h3⟩
/-! Station: what a station hears -/
def stn (s : Nat) (r : List Nat) (q : Nat) (sp ov : Bool) : sA := fun h => ∃ a, stars [pt s (.inr (7, [.ref a, .int (nI q), .int (bI sp), .int (bI ov)])), row a 256 r] h
theorem stn_O {s q : Nat} {r : List Nat} {sp ov : Bool} : isO (stn s r q sp ov) s 7 := by
  rintro h ⟨a, k⟩
  exact ⟨_, stars_at _ 0 k rfl⟩
theorem stn_o {s q : Nat} {r : List Nat} {sp ov : Bool} {L : List sA} {h : eH} (k : stars (stn s r q sp ov :: L) h) : ∃ a, stars (pt s (.inr (7, [.ref a, .int (nI q), .int (bI sp), .int (bI ov)])) :: row a 256 r :: L) h := by
  obtain ⟨h1, h2, hu, hj, ⟨a, k⟩, q⟩ := k
  exact ⟨a, (stars_app [_, _] L).mpr ⟨h1, h2, hu, hj, k, q⟩⟩
theorem stn_c {s a q : Nat} {r : List Nat} {sp ov : Bool} {L : List sA} {h : eH} (k : stars (pt s (.inr (7, [.ref a, .int (nI q), .int (bI sp), .int (bI ov)])) :: row a 256 r :: L) h) : stars (stn s r q sp ov :: L) h := stars_close (K := [_, _]) k (fun h' k' => ⟨a, k'⟩)
def hrR (r : List Nat) (b : Nat) : List Nat := if r.length < 256 then r ++ [b] else r
def hrS (r : List Nat) (q : Nat) (sp : Bool) : Bool := sp || (decide (0 < r.length) && decide (6 < q)) || decide (256 ≤ r.length)
def hrO (r : List Nat) (ov : Bool) : Bool := ov || decide (256 ≤ r.length)
def goodF (r : List Nat) (sp : Bool) : Bool := !sp && (decide (4 ≤ r.length) && decide (crs (r.take (r.length - 2)) = r.getD (r.length - 2) 0 + r.getD (r.length - 1) 0 * 256))
set_option maxRecDepth 20000 in
set_option maxHeartbeats 2000000 in
/-- Station() -/
theorem k_X9_init {s : Nat} : CA mX9_init [.ref s] [pt s (.inr (7, [.null, .int 0, .int 0, .int 0]))] (fun x L => x = none ∧ L = [stn s [] 14 false false]) 2 41 2 258 := by
  refine CA.mk 0 (ls := [some (.ref s)]) rfl rfl (Nat.le_of_ble_eq_true rfl) rfl (fun h hL => ?_)
  refine e_aload_n 1 dX9_init_0 rfl rfl ?_
  refine e_objInit 4 dX9_init_1 rfl oi_X9_3 (by decide) (Nat.le_of_ble_eq_true rfl) ?_
  refine e_aload_n 5 dX9_init_4 rfl rfl ?_
  refine p_new 8 2 hL rfl dX9_init_5 rfl nc_X9_9 (by omega) (by omega) (fun q5 h hL => ?_)
  have hL : stars [pt q5 (.inr (4, [.null, .int 0])), pt s (.inr (7, [.null, .int 0, .int 0, .int 0]))] h := hL
  refine e_dup 9 dX9_init_8 rfl rfl ?_
  refine e_sipush 12 (v := (nI 256)) dX9_init_9 rfl (by decide) ?_
  refine p_callI 15 hL [0, 1] 2 rfl (by decide) (L1 := [pt q5 (.inr (4, [.null, .int 0]))]) (L2 := [pt s (.inr (7, [.null, .int 0, .int 0, .int 0]))]) rfl dX9_init_12 rfl ci_X9_11 (k_X4_init (by decide)) rfl rfl (Nat.le_of_ble_eq_true rfl) ⟨by decide, by omega, by omega⟩ (fun r1 L1 h q hL => ?_)
  obtain ⟨rfl, rfl⟩ := q
  have hL : stars [row q5 256 ([]), pt s (.inr (7, [.null, .int 0, .int 0, .int 0]))] h := hL
  refine p_put 18 hL 1 (fs' := [.ref q5, .int 0, .int 0, .int 0]) (L' := [row q5 256 ([]), pt s (.inr (7, [.ref q5, .int 0, .int 0, .int 0]))]) rfl rfl dX9_init_15 rfl fp_X9_14_7 (Or.inr rfl) (Nat.le_of_ble_eq_true rfl) rfl rfl rfl (fun h hL => ?_)
  refine e_aload_n 19 dX9_init_18 rfl rfl ?_
  refine e_bipush 21 (v := (nI 14)) dX9_init_19 rfl (by decide) ?_
  refine p_put 24 hL 1 (fs' := [.ref q5, .int (nI 14), .int 0, .int 0]) (L' := [row q5 256 ([]), pt s (.inr (7, [.ref q5, .int (nI 14), .int 0, .int 0]))]) rfl rfl dX9_init_21 rfl fp_X9_20_7 (Or.inl rfl) (Nat.le_of_ble_eq_true rfl) rfl rfl rfl (fun h hL => ?_)
  refine e_aload_n 25 dX9_init_24 rfl rfl ?_
  refine e_iconst 26 (v := (nI 0)) dX9_init_25 rfl (by decide) ?_
  refine p_put 29 hL 1 (fs' := [.ref q5, .int (nI 14), .int (nI 0), .int 0]) (L' := [row q5 256 ([]), pt s (.inr (7, [.ref q5, .int (nI 14), .int (nI 0), .int 0]))]) rfl rfl dX9_init_26 rfl fp_X9_24_7 (Or.inl rfl) (Nat.le_of_ble_eq_true rfl) (by decide) rfl rfl (fun h hL => ?_)
  refine e_aload_n 30 dX9_init_29 rfl rfl ?_
  refine e_iconst 31 (v := (nI 0)) dX9_init_30 rfl (by decide) ?_
  refine p_put 34 hL 1 (fs' := [.ref q5, .int (nI 14), .int (nI 0), .int (nI 0)]) (L' := [row q5 256 ([]), pt s (.inr (7, [.ref q5, .int (nI 14), .int (nI 0), .int (nI 0)]))]) rfl rfl dX9_init_31 rfl fp_X9_28_7 (Or.inl rfl) (Nat.le_of_ble_eq_true rfl) (by decide) rfl rfl (fun h hL => ?_)
  exact e_vret dX9_init_34 rfl (by omega) (by omega) (⟨_, ⟨rfl, rfl⟩, stn_c (sp := false) (ov := false) (L := []) (stars_ix hL [1, 0] rfl rfl)⟩)
set_option maxRecDepth 20000 in
set_option maxHeartbeats 2000000 in
/-- hear(b) -/
theorem k_X9_hear {s q : Nat} {r : List Nat} {sp ov : Bool} {b : Nat} (hq : q < 1000000) : CA mX9_hear [.ref s, .int (nI b)] [stn s r q sp ov] (fun x L => x = none ∧ L = [stn s (hrR r b) 0 (hrS r q sp) (hrO r ov)]) 1 21 0 0 := by
  refine CA.mk 0 (ls := [some (.ref s), some (.int (nI b))]) rfl rfl (Nat.le_of_ble_eq_true rfl) rfl (fun h hL => ?_)
  obtain ⟨a, hL⟩ := stn_o hL
  have hlen := row_len _ 1 hL rfl
  refine e_aload_n 1 dX9_hear_0 rfl rfl ?_
  refine e_get 4 dX9_hear_1 rfl fl_X9_14_7 (stars_at _ 0 hL rfl) rfl ?_
  obtain ⟨z4, y4⟩ := row_at _ 1 hL rfl
  refine e_get 7 dX9_hear_4 rfl fl_X9_31_4 y4 rfl ?_
  refine e_if_le 24 10 dX9_hear_7 rfl rfl (fun c7 => ?_) (fun c7 => ?_)
  · have k7 := j_le0_t (a := r.length) (by omega) c7
    refine e_aload_n 25 dX9_hear_24 rfl rfl ?_
    refine e_get 28 dX9_hear_25 rfl fl_X9_14_7 (stars_at _ 0 hL rfl) rfl ?_
    obtain ⟨z28, y28⟩ := row_at _ 1 hL rfl
    refine e_get 31 dX9_hear_28 rfl fl_X9_31_4 y28 rfl ?_
    refine e_sipush 34 (v := (nI 256)) dX9_hear_31 rfl (by decide) ?_
    refine e_icmp_lt 50 37 dX9_hear_34 rfl rfl (fun c34 => ?_) (fun c34 => ?_)
    · have k34 := j_lt_t (a := r.length) (b := 256) (by omega) (by omega) c34
      refine e_aload_n 51 dX9_hear_50 rfl rfl ?_
      refine e_get 54 dX9_hear_51 rfl fl_X9_14_7 (stars_at _ 0 hL rfl) rfl ?_
      refine e_iload_n 55 dX9_hear_54 rfl rfl ?_
      refine p_callV 58 hL [1, 0] 2 rfl (by decide) (L1 := [row a 256 r]) (L2 := [pt s (.inr (7, [.ref a, .int (nI q), .int (bI sp), .int (bI ov)]))]) rfl row_O 1 rfl dX9_hear_55 rfl cv_X9_34 k_X4_add rfl rfl (Nat.le_of_ble_eq_true rfl) ⟨by decide, by omega, by omega⟩ (fun r1 L1 h q hL => ?_)
      obtain ⟨rfl, rfl⟩ := q
      have hL : stars [row a 256 (if r.length < 256 then r ++ [b] else r), pt s (.inr (7, [.ref a, .int (nI q), .int (bI sp), .int (bI ov)]))] h := hL
      rw [if_pos (by omega)] at hL
      have hL : stars [row a 256 (r ++ [b]), pt s (.inr (7, [.ref a, .int (nI q), .int (bI sp), .int (bI ov)]))] h := hL
      have hL : stars [pt s (.inr (7, [.ref a, .int (nI q), .int (bI sp), .int (bI ov)])), row a 256 (r ++ [b])] h := stars_ixn hL 2 rfl [1, 0] (by decide) rfl
      refine e_aload_n 59 dX9_hear_58 rfl rfl ?_
      refine e_iconst 60 (v := (nI 0)) dX9_hear_59 rfl (by decide) ?_
      refine p_put 63 hL 0 (fs' := [.ref a, .int (nI 0), .int (bI sp), .int (bI ov)]) (L' := [pt s (.inr (7, [.ref a, .int (nI 0), .int (bI sp), .int (bI ov)])), row a 256 (r ++ [b])]) rfl rfl dX9_hear_60 rfl fp_X9_20_7 (Or.inl rfl) (Nat.le_of_ble_eq_true rfl) rfl rfl rfl (fun h hL => ?_)
      exact e_vret dX9_hear_63 rfl (by omega) (by omega) (⟨_, ⟨rfl, rfl⟩, by rw [show hrR r b = (r ++ [b]) by simp only [hrR]; exact if_pos (by omega), show hrS r q sp = sp by unfold hrS; cases sp <;> (try simp only [Bool.and_eq_true, Bool.or_eq_true, Bool.not_eq_true', Bool.and_eq_false_iff, Bool.or_eq_false_iff, Bool.not_eq_false', decide_eq_true_eq, decide_eq_false_iff_not, Bool.false_or, Bool.true_or, Bool.or_false, Bool.or_true, Bool.not_false, Bool.not_true, Bool.true_and, Bool.false_and, Bool.and_true, Bool.and_false, reduceCtorEq]) <;> (try omega), show hrO r ov = ov by unfold hrO; cases ov <;> (try simp only [Bool.and_eq_true, Bool.or_eq_true, Bool.not_eq_true', Bool.and_eq_false_iff, Bool.or_eq_false_iff, Bool.not_eq_false', decide_eq_true_eq, decide_eq_false_iff_not, Bool.false_or, Bool.true_or, Bool.or_false, Bool.or_true, Bool.not_false, Bool.not_true, Bool.true_and, Bool.false_and, Bool.and_true, Bool.and_false, reduceCtorEq]) <;> (try omega)]; exact stn_c (L := []) hL⟩)
    · have k34 := j_lt_f (a := r.length) (b := 256) (by omega) (by omega) c34
      refine e_aload_n 38 dX9_hear_37 rfl rfl ?_
      refine e_iconst 39 (v := (nI 1)) dX9_hear_38 rfl (by decide) ?_
      refine p_put 42 hL 0 (fs' := [.ref a, .int (nI q), .int (nI 1), .int (bI ov)]) (L' := [pt s (.inr (7, [.ref a, .int (nI q), .int (nI 1), .int (bI ov)])), row a 256 r]) rfl rfl dX9_hear_39 rfl fp_X9_24_7 (Or.inl rfl) (Nat.le_of_ble_eq_true rfl) (by decide) rfl rfl (fun h hL => ?_)
      refine e_aload_n 43 dX9_hear_42 rfl rfl ?_
      refine e_iconst 44 (v := (nI 1)) dX9_hear_43 rfl (by decide) ?_
      refine p_put 47 hL 0 (fs' := [.ref a, .int (nI q), .int (nI 1), .int (nI 1)]) (L' := [pt s (.inr (7, [.ref a, .int (nI q), .int (nI 1), .int (nI 1)])), row a 256 r]) rfl rfl dX9_hear_44 rfl fp_X9_28_7 (Or.inl rfl) (Nat.le_of_ble_eq_true rfl) (by decide) rfl rfl (fun h hL => ?_)
      refine e_goto 58 dX9_hear_47 rfl ?_
      refine e_aload_n 59 dX9_hear_58 rfl rfl ?_
      refine e_iconst 60 (v := (nI 0)) dX9_hear_59 rfl (by decide) ?_
      refine p_put 63 hL 0 (fs' := [.ref a, .int (nI 0), .int (nI 1), .int (nI 1)]) (L' := [pt s (.inr (7, [.ref a, .int (nI 0), .int (nI 1), .int (nI 1)])), row a 256 r]) rfl rfl dX9_hear_60 rfl fp_X9_20_7 (Or.inl rfl) (Nat.le_of_ble_eq_true rfl) rfl rfl rfl (fun h hL => ?_)
      exact e_vret dX9_hear_63 rfl (by omega) (by omega) (⟨_, ⟨rfl, rfl⟩, by rw [show hrR r b = r by simp only [hrR]; exact if_neg (by omega), show hrS r q sp = true by unfold hrS; cases sp <;> (try simp only [Bool.and_eq_true, Bool.or_eq_true, Bool.not_eq_true', Bool.and_eq_false_iff, Bool.or_eq_false_iff, Bool.not_eq_false', decide_eq_true_eq, decide_eq_false_iff_not, Bool.false_or, Bool.true_or, Bool.or_false, Bool.or_true, Bool.not_false, Bool.not_true, Bool.true_and, Bool.false_and, Bool.and_true, Bool.and_false, reduceCtorEq]) <;> (try omega), show hrO r ov = true by unfold hrO; cases ov <;> (try simp only [Bool.and_eq_true, Bool.or_eq_true, Bool.not_eq_true', Bool.and_eq_false_iff, Bool.or_eq_false_iff, Bool.not_eq_false', decide_eq_true_eq, decide_eq_false_iff_not, Bool.false_or, Bool.true_or, Bool.or_false, Bool.or_true, Bool.not_false, Bool.not_true, Bool.true_and, Bool.false_and, Bool.and_true, Bool.and_false, reduceCtorEq]) <;> (try omega)]; exact stn_c (L := []) hL⟩)
  · have k7 := j_le0_f (a := r.length) (by omega) c7
    refine e_aload_n 11 dX9_hear_10 rfl rfl ?_
    refine e_get 14 dX9_hear_11 rfl fl_X9_20_7 (stars_at _ 0 hL rfl) rfl ?_
    refine e_bipush 16 (v := (nI 6)) dX9_hear_14 rfl (by decide) ?_
    refine e_icmp_le 24 19 dX9_hear_16 rfl rfl (fun c16 => ?_) (fun c16 => ?_)
    · have k16 := j_le_t (a := q) (b := 6) (by omega) (by omega) c16
      refine e_aload_n 25 dX9_hear_24 rfl rfl ?_
      refine e_get 28 dX9_hear_25 rfl fl_X9_14_7 (stars_at _ 0 hL rfl) rfl ?_
      obtain ⟨z28, y28⟩ := row_at _ 1 hL rfl
      refine e_get 31 dX9_hear_28 rfl fl_X9_31_4 y28 rfl ?_
      refine e_sipush 34 (v := (nI 256)) dX9_hear_31 rfl (by decide) ?_
      refine e_icmp_lt 50 37 dX9_hear_34 rfl rfl (fun c34 => ?_) (fun c34 => ?_)
      · have k34 := j_lt_t (a := r.length) (b := 256) (by omega) (by omega) c34
        refine e_aload_n 51 dX9_hear_50 rfl rfl ?_
        refine e_get 54 dX9_hear_51 rfl fl_X9_14_7 (stars_at _ 0 hL rfl) rfl ?_
        refine e_iload_n 55 dX9_hear_54 rfl rfl ?_
        refine p_callV 58 hL [1, 0] 2 rfl (by decide) (L1 := [row a 256 r]) (L2 := [pt s (.inr (7, [.ref a, .int (nI q), .int (bI sp), .int (bI ov)]))]) rfl row_O 1 rfl dX9_hear_55 rfl cv_X9_34 k_X4_add rfl rfl (Nat.le_of_ble_eq_true rfl) ⟨by decide, by omega, by omega⟩ (fun r1 L1 h q hL => ?_)
        obtain ⟨rfl, rfl⟩ := q
        have hL : stars [row a 256 (if r.length < 256 then r ++ [b] else r), pt s (.inr (7, [.ref a, .int (nI q), .int (bI sp), .int (bI ov)]))] h := hL
        rw [if_pos (by omega)] at hL
        have hL : stars [row a 256 (r ++ [b]), pt s (.inr (7, [.ref a, .int (nI q), .int (bI sp), .int (bI ov)]))] h := hL
        have hL : stars [pt s (.inr (7, [.ref a, .int (nI q), .int (bI sp), .int (bI ov)])), row a 256 (r ++ [b])] h := stars_ixn hL 2 rfl [1, 0] (by decide) rfl
        refine e_aload_n 59 dX9_hear_58 rfl rfl ?_
        refine e_iconst 60 (v := (nI 0)) dX9_hear_59 rfl (by decide) ?_
        refine p_put 63 hL 0 (fs' := [.ref a, .int (nI 0), .int (bI sp), .int (bI ov)]) (L' := [pt s (.inr (7, [.ref a, .int (nI 0), .int (bI sp), .int (bI ov)])), row a 256 (r ++ [b])]) rfl rfl dX9_hear_60 rfl fp_X9_20_7 (Or.inl rfl) (Nat.le_of_ble_eq_true rfl) rfl rfl rfl (fun h hL => ?_)
        exact e_vret dX9_hear_63 rfl (by omega) (by omega) (⟨_, ⟨rfl, rfl⟩, by rw [show hrR r b = (r ++ [b]) by simp only [hrR]; exact if_pos (by omega), show hrS r q sp = sp by unfold hrS; cases sp <;> (try simp only [Bool.and_eq_true, Bool.or_eq_true, Bool.not_eq_true', Bool.and_eq_false_iff, Bool.or_eq_false_iff, Bool.not_eq_false', decide_eq_true_eq, decide_eq_false_iff_not, Bool.false_or, Bool.true_or, Bool.or_false, Bool.or_true, Bool.not_false, Bool.not_true, Bool.true_and, Bool.false_and, Bool.and_true, Bool.and_false, reduceCtorEq]) <;> (try omega), show hrO r ov = ov by unfold hrO; cases ov <;> (try simp only [Bool.and_eq_true, Bool.or_eq_true, Bool.not_eq_true', Bool.and_eq_false_iff, Bool.or_eq_false_iff, Bool.not_eq_false', decide_eq_true_eq, decide_eq_false_iff_not, Bool.false_or, Bool.true_or, Bool.or_false, Bool.or_true, Bool.not_false, Bool.not_true, Bool.true_and, Bool.false_and, Bool.and_true, Bool.and_false, reduceCtorEq]) <;> (try omega)]; exact stn_c (L := []) hL⟩)
      · have k34 := j_lt_f (a := r.length) (b := 256) (by omega) (by omega) c34
        refine e_aload_n 38 dX9_hear_37 rfl rfl ?_
        refine e_iconst 39 (v := (nI 1)) dX9_hear_38 rfl (by decide) ?_
        refine p_put 42 hL 0 (fs' := [.ref a, .int (nI q), .int (nI 1), .int (bI ov)]) (L' := [pt s (.inr (7, [.ref a, .int (nI q), .int (nI 1), .int (bI ov)])), row a 256 r]) rfl rfl dX9_hear_39 rfl fp_X9_24_7 (Or.inl rfl) (Nat.le_of_ble_eq_true rfl) (by decide) rfl rfl (fun h hL => ?_)
        refine e_aload_n 43 dX9_hear_42 rfl rfl ?_
        refine e_iconst 44 (v := (nI 1)) dX9_hear_43 rfl (by decide) ?_
        refine p_put 47 hL 0 (fs' := [.ref a, .int (nI q), .int (nI 1), .int (nI 1)]) (L' := [pt s (.inr (7, [.ref a, .int (nI q), .int (nI 1), .int (nI 1)])), row a 256 r]) rfl rfl dX9_hear_44 rfl fp_X9_28_7 (Or.inl rfl) (Nat.le_of_ble_eq_true rfl) (by decide) rfl rfl (fun h hL => ?_)
        refine e_goto 58 dX9_hear_47 rfl ?_
        refine e_aload_n 59 dX9_hear_58 rfl rfl ?_
        refine e_iconst 60 (v := (nI 0)) dX9_hear_59 rfl (by decide) ?_
        refine p_put 63 hL 0 (fs' := [.ref a, .int (nI 0), .int (nI 1), .int (nI 1)]) (L' := [pt s (.inr (7, [.ref a, .int (nI 0), .int (nI 1), .int (nI 1)])), row a 256 r]) rfl rfl dX9_hear_60 rfl fp_X9_20_7 (Or.inl rfl) (Nat.le_of_ble_eq_true rfl) rfl rfl rfl (fun h hL => ?_)
        exact e_vret dX9_hear_63 rfl (by omega) (by omega) (⟨_, ⟨rfl, rfl⟩, by rw [show hrR r b = r by simp only [hrR]; exact if_neg (by omega), show hrS r q sp = true by unfold hrS; cases sp <;> (try simp only [Bool.and_eq_true, Bool.or_eq_true, Bool.not_eq_true', Bool.and_eq_false_iff, Bool.or_eq_false_iff, Bool.not_eq_false', decide_eq_true_eq, decide_eq_false_iff_not, Bool.false_or, Bool.true_or, Bool.or_false, Bool.or_true, Bool.not_false, Bool.not_true, Bool.true_and, Bool.false_and, Bool.and_true, Bool.and_false, reduceCtorEq]) <;> (try omega), show hrO r ov = true by unfold hrO; cases ov <;> (try simp only [Bool.and_eq_true, Bool.or_eq_true, Bool.not_eq_true', Bool.and_eq_false_iff, Bool.or_eq_false_iff, Bool.not_eq_false', decide_eq_true_eq, decide_eq_false_iff_not, Bool.false_or, Bool.true_or, Bool.or_false, Bool.or_true, Bool.not_false, Bool.not_true, Bool.true_and, Bool.false_and, Bool.and_true, Bool.and_false, reduceCtorEq]) <;> (try omega)]; exact stn_c (L := []) hL⟩)
    · have k16 := j_le_f (a := q) (b := 6) (by omega) (by omega) c16
      refine e_aload_n 20 dX9_hear_19 rfl rfl ?_
      refine e_iconst 21 (v := (nI 1)) dX9_hear_20 rfl (by decide) ?_
      refine p_put 24 hL 0 (fs' := [.ref a, .int (nI q), .int (nI 1), .int (bI ov)]) (L' := [pt s (.inr (7, [.ref a, .int (nI q), .int (nI 1), .int (bI ov)])), row a 256 r]) rfl rfl dX9_hear_21 rfl fp_X9_24_7 (Or.inl rfl) (Nat.le_of_ble_eq_true rfl) (by decide) rfl rfl (fun h hL => ?_)
      refine e_aload_n 25 dX9_hear_24 rfl rfl ?_
      refine e_get 28 dX9_hear_25 rfl fl_X9_14_7 (stars_at _ 0 hL rfl) rfl ?_
      obtain ⟨z28, y28⟩ := row_at _ 1 hL rfl
      refine e_get 31 dX9_hear_28 rfl fl_X9_31_4 y28 rfl ?_
      refine e_sipush 34 (v := (nI 256)) dX9_hear_31 rfl (by decide) ?_
      refine e_icmp_lt 50 37 dX9_hear_34 rfl rfl (fun c34 => ?_) (fun c34 => ?_)
      · have k34 := j_lt_t (a := r.length) (b := 256) (by omega) (by omega) c34
        refine e_aload_n 51 dX9_hear_50 rfl rfl ?_
        refine e_get 54 dX9_hear_51 rfl fl_X9_14_7 (stars_at _ 0 hL rfl) rfl ?_
        refine e_iload_n 55 dX9_hear_54 rfl rfl ?_
        refine p_callV 58 hL [1, 0] 2 rfl (by decide) (L1 := [row a 256 r]) (L2 := [pt s (.inr (7, [.ref a, .int (nI q), .int (nI 1), .int (bI ov)]))]) rfl row_O 1 rfl dX9_hear_55 rfl cv_X9_34 k_X4_add rfl rfl (Nat.le_of_ble_eq_true rfl) ⟨by decide, by omega, by omega⟩ (fun r1 L1 h q hL => ?_)
        obtain ⟨rfl, rfl⟩ := q
        have hL : stars [row a 256 (if r.length < 256 then r ++ [b] else r), pt s (.inr (7, [.ref a, .int (nI q), .int (nI 1), .int (bI ov)]))] h := hL
        rw [if_pos (by omega)] at hL
        have hL : stars [row a 256 (r ++ [b]), pt s (.inr (7, [.ref a, .int (nI q), .int (nI 1), .int (bI ov)]))] h := hL
        have hL : stars [pt s (.inr (7, [.ref a, .int (nI q), .int (nI 1), .int (bI ov)])), row a 256 (r ++ [b])] h := stars_ixn hL 2 rfl [1, 0] (by decide) rfl
        refine e_aload_n 59 dX9_hear_58 rfl rfl ?_
        refine e_iconst 60 (v := (nI 0)) dX9_hear_59 rfl (by decide) ?_
        refine p_put 63 hL 0 (fs' := [.ref a, .int (nI 0), .int (nI 1), .int (bI ov)]) (L' := [pt s (.inr (7, [.ref a, .int (nI 0), .int (nI 1), .int (bI ov)])), row a 256 (r ++ [b])]) rfl rfl dX9_hear_60 rfl fp_X9_20_7 (Or.inl rfl) (Nat.le_of_ble_eq_true rfl) rfl rfl rfl (fun h hL => ?_)
        exact e_vret dX9_hear_63 rfl (by omega) (by omega) (⟨_, ⟨rfl, rfl⟩, by rw [show hrR r b = (r ++ [b]) by simp only [hrR]; exact if_pos (by omega), show hrS r q sp = true by unfold hrS; cases sp <;> (try simp only [Bool.and_eq_true, Bool.or_eq_true, Bool.not_eq_true', Bool.and_eq_false_iff, Bool.or_eq_false_iff, Bool.not_eq_false', decide_eq_true_eq, decide_eq_false_iff_not, Bool.false_or, Bool.true_or, Bool.or_false, Bool.or_true, Bool.not_false, Bool.not_true, Bool.true_and, Bool.false_and, Bool.and_true, Bool.and_false, reduceCtorEq]) <;> (try omega), show hrO r ov = ov by unfold hrO; cases ov <;> (try simp only [Bool.and_eq_true, Bool.or_eq_true, Bool.not_eq_true', Bool.and_eq_false_iff, Bool.or_eq_false_iff, Bool.not_eq_false', decide_eq_true_eq, decide_eq_false_iff_not, Bool.false_or, Bool.true_or, Bool.or_false, Bool.or_true, Bool.not_false, Bool.not_true, Bool.true_and, Bool.false_and, Bool.and_true, Bool.and_false, reduceCtorEq]) <;> (try omega)]; exact stn_c (L := []) hL⟩)
      · have k34 := j_lt_f (a := r.length) (b := 256) (by omega) (by omega) c34
        refine e_aload_n 38 dX9_hear_37 rfl rfl ?_
        refine e_iconst 39 (v := (nI 1)) dX9_hear_38 rfl (by decide) ?_
        refine p_put 42 hL 0 (fs' := [.ref a, .int (nI q), .int (nI 1), .int (bI ov)]) (L' := [pt s (.inr (7, [.ref a, .int (nI q), .int (nI 1), .int (bI ov)])), row a 256 r]) rfl rfl dX9_hear_39 rfl fp_X9_24_7 (Or.inl rfl) (Nat.le_of_ble_eq_true rfl) (by decide) rfl rfl (fun h hL => ?_)
        refine e_aload_n 43 dX9_hear_42 rfl rfl ?_
        refine e_iconst 44 (v := (nI 1)) dX9_hear_43 rfl (by decide) ?_
        refine p_put 47 hL 0 (fs' := [.ref a, .int (nI q), .int (nI 1), .int (nI 1)]) (L' := [pt s (.inr (7, [.ref a, .int (nI q), .int (nI 1), .int (nI 1)])), row a 256 r]) rfl rfl dX9_hear_44 rfl fp_X9_28_7 (Or.inl rfl) (Nat.le_of_ble_eq_true rfl) (by decide) rfl rfl (fun h hL => ?_)
        refine e_goto 58 dX9_hear_47 rfl ?_
        refine e_aload_n 59 dX9_hear_58 rfl rfl ?_
        refine e_iconst 60 (v := (nI 0)) dX9_hear_59 rfl (by decide) ?_
        refine p_put 63 hL 0 (fs' := [.ref a, .int (nI 0), .int (nI 1), .int (nI 1)]) (L' := [pt s (.inr (7, [.ref a, .int (nI 0), .int (nI 1), .int (nI 1)])), row a 256 r]) rfl rfl dX9_hear_60 rfl fp_X9_20_7 (Or.inl rfl) (Nat.le_of_ble_eq_true rfl) rfl rfl rfl (fun h hL => ?_)
        exact e_vret dX9_hear_63 rfl (by omega) (by omega) (⟨_, ⟨rfl, rfl⟩, by rw [show hrR r b = r by simp only [hrR]; exact if_neg (by omega), show hrS r q sp = true by unfold hrS; cases sp <;> (try simp only [Bool.and_eq_true, Bool.or_eq_true, Bool.not_eq_true', Bool.and_eq_false_iff, Bool.or_eq_false_iff, Bool.not_eq_false', decide_eq_true_eq, decide_eq_false_iff_not, Bool.false_or, Bool.true_or, Bool.or_false, Bool.or_true, Bool.not_false, Bool.not_true, Bool.true_and, Bool.false_and, Bool.and_true, Bool.and_false, reduceCtorEq]) <;> (try omega), show hrO r ov = true by unfold hrO; cases ov <;> (try simp only [Bool.and_eq_true, Bool.or_eq_true, Bool.not_eq_true', Bool.and_eq_false_iff, Bool.or_eq_false_iff, Bool.not_eq_false', decide_eq_true_eq, decide_eq_false_iff_not, Bool.false_or, Bool.true_or, Bool.or_false, Bool.or_true, Bool.not_false, Bool.not_true, Bool.true_and, Bool.false_and, Bool.and_true, Bool.and_false, reduceCtorEq]) <;> (try omega)]; exact stn_c (L := []) hL⟩)
set_option maxRecDepth 20000 in
set_option maxHeartbeats 2000000 in
/-- frameEndsNow() -/
theorem k_X9_frameEndsNow {s q : Nat} {r : List Nat} {sp ov : Bool} (hq : q < 1000000) : CA mX9_frameEndsNow [.ref s] [stn s r q sp ov] (fun x L => x = some (.int (bI (decide (q + 1 = 14) && decide (0 < r.length)))) ∧ L = [stn s r (q + 1) sp ov]) 0 0 0 0 := by
  refine CA.mk 0 (ls := [some (.ref s)]) rfl rfl (Nat.le_of_ble_eq_true rfl) rfl (fun h hL => ?_)
  obtain ⟨a, hL⟩ := stn_o hL
  have hlen := row_len _ 1 hL rfl
  refine e_aload_n 1 dX9_frameEndsNow_0 rfl rfl ?_
  refine e_dup 2 dX9_frameEndsNow_1 rfl rfl ?_
  refine e_get 5 dX9_frameEndsNow_2 rfl fl_X9_20_7 (stars_at _ 0 hL rfl) rfl ?_
  refine e_iconst 6 (v := (nI 1)) dX9_frameEndsNow_5 rfl (by decide) ?_
  refine e_iadd 7 (v := (nI (q + 1))) dX9_frameEndsNow_6 rfl (nI_add q 1) ?_
  refine p_put 10 hL 0 (fs' := [.ref a, .int (nI (q + 1)), .int (bI sp), .int (bI ov)]) (L' := [pt s (.inr (7, [.ref a, .int (nI (q + 1)), .int (bI sp), .int (bI ov)])), row a 256 r]) rfl rfl dX9_frameEndsNow_7 rfl fp_X9_20_7 (Or.inl rfl) (Nat.le_of_ble_eq_true rfl) rfl rfl rfl (fun h hL => ?_)
  refine e_aload_n 11 dX9_frameEndsNow_10 rfl rfl ?_
  refine e_get 14 dX9_frameEndsNow_11 rfl fl_X9_20_7 (stars_at _ 0 hL rfl) rfl ?_
  refine e_bipush 16 (v := (nI 14)) dX9_frameEndsNow_14 rfl (by decide) ?_
  refine e_icmp_ne 33 19 dX9_frameEndsNow_16 rfl rfl (fun c16 => ?_) (fun c16 => ?_)
  · have k16 := j_ne_t (a := (q + 1)) (b := 14) (by omega) (by omega) c16
    refine e_iconst 34 (v := (nI 0)) dX9_frameEndsNow_33 rfl (by decide) ?_
    exact e_zret dX9_frameEndsNow_34 rfl (Or.inl (by decide)) (by omega) (by omega) (⟨_, ⟨by rw [show (decide (q + 1 = 14) && decide (0 < r.length)) = false by (try simp only [Bool.and_eq_true, Bool.or_eq_true, Bool.not_eq_true', Bool.and_eq_false_iff, Bool.or_eq_false_iff, Bool.not_eq_false', decide_eq_true_eq, decide_eq_false_iff_not, Bool.false_or, Bool.true_or, Bool.or_false, Bool.or_true, Bool.not_false, Bool.not_true, Bool.true_and, Bool.false_and, Bool.and_true, Bool.and_false, reduceCtorEq]) <;> (try omega)]; rfl, rfl⟩, stn_c (L := []) hL⟩)
  · have k16 := j_ne_f (a := (q + 1)) (b := 14) (by omega) (by omega) c16
    refine e_aload_n 20 dX9_frameEndsNow_19 rfl rfl ?_
    refine e_get 23 dX9_frameEndsNow_20 rfl fl_X9_14_7 (stars_at _ 0 hL rfl) rfl ?_
    obtain ⟨z23, y23⟩ := row_at _ 1 hL rfl
    refine e_get 26 dX9_frameEndsNow_23 rfl fl_X9_31_4 y23 rfl ?_
    refine e_if_le 33 29 dX9_frameEndsNow_26 rfl rfl (fun c26 => ?_) (fun c26 => ?_)
    · have k26 := j_le0_t (a := r.length) (by omega) c26
      refine e_iconst 34 (v := (nI 0)) dX9_frameEndsNow_33 rfl (by decide) ?_
      exact e_zret dX9_frameEndsNow_34 rfl (Or.inl (by decide)) (by omega) (by omega) (⟨_, ⟨by rw [show (decide (q + 1 = 14) && decide (0 < r.length)) = false by (try simp only [Bool.and_eq_true, Bool.or_eq_true, Bool.not_eq_true', Bool.and_eq_false_iff, Bool.or_eq_false_iff, Bool.not_eq_false', decide_eq_true_eq, decide_eq_false_iff_not, Bool.false_or, Bool.true_or, Bool.or_false, Bool.or_true, Bool.not_false, Bool.not_true, Bool.true_and, Bool.false_and, Bool.and_true, Bool.and_false, reduceCtorEq]) <;> (try omega)]; rfl, rfl⟩, stn_c (L := []) hL⟩)
    · have k26 := j_le0_f (a := r.length) (by omega) c26
      refine e_iconst 30 (v := (nI 1)) dX9_frameEndsNow_29 rfl (by decide) ?_
      refine e_goto 34 dX9_frameEndsNow_30 rfl ?_
      exact e_zret dX9_frameEndsNow_34 rfl (Or.inr (by decide)) (by omega) (by omega) (⟨_, ⟨by rw [show (decide (q + 1 = 14) && decide (0 < r.length)) = true by (try simp only [Bool.and_eq_true, Bool.or_eq_true, Bool.not_eq_true', Bool.and_eq_false_iff, Bool.or_eq_false_iff, Bool.not_eq_false', decide_eq_true_eq, decide_eq_false_iff_not, Bool.false_or, Bool.true_or, Bool.or_false, Bool.or_true, Bool.not_false, Bool.not_true, Bool.true_and, Bool.false_and, Bool.and_true, Bool.and_false, reduceCtorEq]) <;> (try omega)]; rfl, rfl⟩, stn_c (L := []) hL⟩)
set_option maxRecDepth 20000 in
set_option maxHeartbeats 2000000 in
/-- isGood() -/
theorem k_X9_isGood {s q : Nat} {r : List Nat} {sp ov : Bool} (hb : ∀ x ∈ r, x < 65536) : CA mX9_isGood [.ref s] [stn s r q sp ov] (fun x L => x = some (.int (bI (goodF r sp))) ∧ L = [stn s r q sp ov]) 1 24 0 0 := by
  refine CA.mk 0 (ls := [some (.ref s)]) rfl rfl (Nat.le_of_ble_eq_true rfl) rfl (fun h hL => ?_)
  obtain ⟨a, hL⟩ := stn_o hL
  have hlen := row_len _ 1 hL rfl
  have b1 := gd_lt (i := r.length - 2) hb (by decide)
  have b2 := gd_lt (i := r.length - 1) hb (by decide)
  have b3 : crs (r.take (r.length - 2)) < 65536 := crs_lt (fun x hx => hb x (List.mem_of_mem_take hx))
  refine e_aload_n 1 dX9_isGood_0 rfl rfl ?_
  refine e_get 4 dX9_isGood_1 rfl fl_X9_24_7 (stars_at _ 0 hL rfl) rfl ?_
  refine e_if_ne 18 7 dX9_isGood_4 rfl rfl (fun c4 => ?_) (fun c4 => ?_)
  · have k4 := jb_ne_t c4
    refine e_iconst 19 (v := (nI 0)) dX9_isGood_18 rfl (by decide) ?_
    exact e_zret dX9_isGood_19 rfl (Or.inl (by decide)) (by omega) (by omega) (⟨_, ⟨by rw [show goodF r sp = false by unfold goodF; rw [k4]; rfl]; rfl, rfl⟩, stn_c (L := []) hL⟩)
  · have k4 := jb_ne_f c4
    refine e_aload_n 8 dX9_isGood_7 rfl rfl ?_
    refine e_get 11 dX9_isGood_8 rfl fl_X9_14_7 (stars_at _ 0 hL rfl) rfl ?_
    obtain ⟨z11, y11⟩ := row_at _ 1 hL rfl
    refine e_get 14 dX9_isGood_11 rfl fl_X9_31_4 y11 rfl ?_
    refine e_iconst 15 (v := (nI 4)) dX9_isGood_14 rfl (by decide) ?_
    refine e_icmp_ge 20 18 dX9_isGood_15 rfl rfl (fun c15 => ?_) (fun c15 => ?_)
    · have k15 := j_ge_t (a := r.length) (b := 4) (by omega) (by omega) c15
      refine e_aload_n 21 dX9_isGood_20 rfl rfl ?_
      refine e_get 24 dX9_isGood_21 rfl fl_X9_14_7 (stars_at _ 0 hL rfl) rfl ?_
      refine e_aload_n 25 dX9_isGood_24 rfl rfl ?_
      refine e_get 28 dX9_isGood_25 rfl fl_X9_14_7 (stars_at _ 0 hL rfl) rfl ?_
      obtain ⟨z28, y28⟩ := row_at _ 1 hL rfl
      refine e_get 31 dX9_isGood_28 rfl fl_X9_31_4 y28 rfl ?_
      refine e_iconst 32 (v := (nI 2)) dX9_isGood_31 rfl (by decide) ?_
      refine e_isub 33 (v := (nI (r.length - 2))) dX9_isGood_32 rfl (pk_sub (by omega)) ?_
      refine p_callV 36 hL [1, 0] 2 rfl (by decide) (L1 := [row a 256 r]) (L2 := [pt s (.inr (7, [.ref a, .int (nI q), .int (bI sp), .int (bI ov)]))]) rfl row_O 1 rfl dX9_isGood_33 rfl cv_X9_37 (k_X4_sumOf hb (by omega)) rfl rfl (Nat.le_of_ble_eq_true rfl) ⟨by decide, by omega, by omega⟩ (fun r1 L1 h q hL => ?_)
      obtain ⟨rfl, rfl⟩ := q
      have hL : stars [row a 256 r, pt s (.inr (7, [.ref a, .int (nI q), .int (bI sp), .int (bI ov)]))] h := hL
      have hL : stars [pt s (.inr (7, [.ref a, .int (nI q), .int (bI sp), .int (bI ov)])), row a 256 r] h := stars_ixn hL 2 rfl [1, 0] (by decide) rfl
      refine e_aload_n 37 dX9_isGood_36 rfl rfl ?_
      refine e_get 40 dX9_isGood_37 rfl fl_X9_14_7 (stars_at _ 0 hL rfl) rfl ?_
      refine e_aload_n 41 dX9_isGood_40 rfl rfl ?_
      refine e_get 44 dX9_isGood_41 rfl fl_X9_14_7 (stars_at _ 0 hL rfl) rfl ?_
      obtain ⟨z44, y44⟩ := row_at _ 1 hL rfl
      refine e_get 47 dX9_isGood_44 rfl fl_X9_31_4 y44 rfl ?_
      refine e_iconst 48 (v := (nI 2)) dX9_isGood_47 rfl (by decide) ?_
      refine e_isub 49 (v := (nI (r.length - 2))) dX9_isGood_48 rfl (pk_sub (by omega)) ?_
      refine p_callV 52 hL [1, 0] 2 rfl (by decide) (L1 := [row a 256 r]) (L2 := [pt s (.inr (7, [.ref a, .int (nI q), .int (bI sp), .int (bI ov)]))]) rfl row_O 1 rfl dX9_isGood_49 rfl cv_X9_41 (k_X4_at (by omega)) rfl rfl (Nat.le_of_ble_eq_true rfl) ⟨by decide, by omega, by omega⟩ (fun r1 L1 h q hL => ?_)
      obtain ⟨rfl, rfl⟩ := q
      have hL : stars [row a 256 r, pt s (.inr (7, [.ref a, .int (nI q), .int (bI sp), .int (bI ov)]))] h := hL
      have hL : stars [pt s (.inr (7, [.ref a, .int (nI q), .int (bI sp), .int (bI ov)])), row a 256 r] h := stars_ixn hL 2 rfl [1, 0] (by decide) rfl
      refine e_aload_n 53 dX9_isGood_52 rfl rfl ?_
      refine e_get 56 dX9_isGood_53 rfl fl_X9_14_7 (stars_at _ 0 hL rfl) rfl ?_
      refine e_aload_n 57 dX9_isGood_56 rfl rfl ?_
      refine e_get 60 dX9_isGood_57 rfl fl_X9_14_7 (stars_at _ 0 hL rfl) rfl ?_
      obtain ⟨z60, y60⟩ := row_at _ 1 hL rfl
      refine e_get 63 dX9_isGood_60 rfl fl_X9_31_4 y60 rfl ?_
      refine e_iconst 64 (v := (nI 1)) dX9_isGood_63 rfl (by decide) ?_
      refine e_isub 65 (v := (nI (r.length - 1))) dX9_isGood_64 rfl (pk_sub (by omega)) ?_
      refine p_callV 68 hL [1, 0] 2 rfl (by decide) (L1 := [row a 256 r]) (L2 := [pt s (.inr (7, [.ref a, .int (nI q), .int (bI sp), .int (bI ov)]))]) rfl row_O 1 rfl dX9_isGood_65 rfl cv_X9_41 (k_X4_at (by omega)) rfl rfl (Nat.le_of_ble_eq_true rfl) ⟨by decide, by omega, by omega⟩ (fun r1 L1 h q hL => ?_)
      obtain ⟨rfl, rfl⟩ := q
      have hL : stars [row a 256 r, pt s (.inr (7, [.ref a, .int (nI q), .int (bI sp), .int (bI ov)]))] h := hL
      have hL : stars [pt s (.inr (7, [.ref a, .int (nI q), .int (bI sp), .int (bI ov)])), row a 256 r] h := stars_ixn hL 2 rfl [1, 0] (by decide) rfl
      refine e_sipush 71 (v := (nI 256)) dX9_isGood_68 rfl (by decide) ?_
      refine e_imul 72 (v := (nI ((r.getD (r.length - 1) 0) * 256))) dX9_isGood_71 rfl (pk_mul (r.getD (r.length - 1) 0) 256) ?_
      refine e_iadd 73 (v := (nI ((r.getD (r.length - 2) 0) + ((r.getD (r.length - 1) 0) * 256)))) dX9_isGood_72 rfl (nI_add (r.getD (r.length - 2) 0) ((r.getD (r.length - 1) 0) * 256)) ?_
      refine e_icmp_ne 80 76 dX9_isGood_73 rfl rfl (fun c73 => ?_) (fun c73 => ?_)
      · have k73 := j_ne_t (a := (crs (r.take (r.length - 2)))) (b := ((r.getD (r.length - 2) 0) + ((r.getD (r.length - 1) 0) * 256))) (by omega) (by omega) c73
        refine e_iconst 81 (v := (nI 0)) dX9_isGood_80 rfl (by decide) ?_
        exact e_zret dX9_isGood_81 rfl (Or.inl (by decide)) (by omega) (by omega) (⟨_, ⟨by rw [show goodF r sp = false by unfold goodF; rw [k4]; (try simp only [Bool.and_eq_true, Bool.or_eq_true, Bool.not_eq_true', Bool.and_eq_false_iff, Bool.or_eq_false_iff, Bool.not_eq_false', decide_eq_true_eq, decide_eq_false_iff_not, Bool.false_or, Bool.true_or, Bool.or_false, Bool.or_true, Bool.not_false, Bool.not_true, Bool.true_and, Bool.false_and, Bool.and_true, Bool.and_false, reduceCtorEq]) <;> (try omega)]; rfl, rfl⟩, stn_c (L := []) hL⟩)
      · have k73 := j_ne_f (a := (crs (r.take (r.length - 2)))) (b := ((r.getD (r.length - 2) 0) + ((r.getD (r.length - 1) 0) * 256))) (by omega) (by omega) c73
        refine e_iconst 77 (v := (nI 1)) dX9_isGood_76 rfl (by decide) ?_
        refine e_goto 81 dX9_isGood_77 rfl ?_
        exact e_zret dX9_isGood_81 rfl (Or.inr (by decide)) (by omega) (by omega) (⟨_, ⟨by rw [show goodF r sp = true by unfold goodF; rw [k4]; (try simp only [Bool.and_eq_true, Bool.or_eq_true, Bool.not_eq_true', Bool.and_eq_false_iff, Bool.or_eq_false_iff, Bool.not_eq_false', decide_eq_true_eq, decide_eq_false_iff_not, Bool.false_or, Bool.true_or, Bool.or_false, Bool.or_true, Bool.not_false, Bool.not_true, Bool.true_and, Bool.false_and, Bool.and_true, Bool.and_false, reduceCtorEq]) <;> (try omega)]; rfl, rfl⟩, stn_c (L := []) hL⟩)
    · have k15 := j_ge_f (a := r.length) (b := 4) (by omega) (by omega) c15
      refine e_iconst 19 (v := (nI 0)) dX9_isGood_18 rfl (by decide) ?_
      exact e_zret dX9_isGood_19 rfl (Or.inl (by decide)) (by omega) (by omega) (⟨_, ⟨by rw [show goodF r sp = false by unfold goodF; rw [k4]; (try simp only [Bool.and_eq_true, Bool.or_eq_true, Bool.not_eq_true', Bool.and_eq_false_iff, Bool.or_eq_false_iff, Bool.not_eq_false', decide_eq_true_eq, decide_eq_false_iff_not, Bool.false_or, Bool.true_or, Bool.or_false, Bool.or_true, Bool.not_false, Bool.not_true, Bool.true_and, Bool.false_and, Bool.and_true, Bool.and_false, reduceCtorEq]) <;> (try omega)]; rfl, rfl⟩, stn_c (L := []) hL⟩)
set_option maxRecDepth 20000 in
set_option maxHeartbeats 2000000 in
/-- forget() -/
theorem k_X9_forget {s q : Nat} {r : List Nat} {sp ov : Bool} : CA mX9_forget [.ref s] [stn s r q sp ov] (fun x L => x = none ∧ L = [stn s [] q false false]) 1 20 0 0 := by
  refine CA.mk 0 (ls := [some (.ref s)]) rfl rfl (Nat.le_of_ble_eq_true rfl) rfl (fun h hL => ?_)
  obtain ⟨a, hL⟩ := stn_o hL
  have hlen := row_len _ 1 hL rfl
  refine e_aload_n 1 dX9_forget_0 rfl rfl ?_
  refine e_get 4 dX9_forget_1 rfl fl_X9_14_7 (stars_at _ 0 hL rfl) rfl ?_
  refine p_callV 7 hL [1, 0] 2 rfl (by decide) (L1 := [row a 256 r]) (L2 := [pt s (.inr (7, [.ref a, .int (nI q), .int (bI sp), .int (bI ov)]))]) rfl row_O 1 rfl dX9_forget_4 rfl cv_X9_44 k_X4_clear rfl rfl (Nat.le_of_ble_eq_true rfl) ⟨by decide, by omega, by omega⟩ (fun r1 L1 h q hL => ?_)
  obtain ⟨rfl, rfl⟩ := q
  have hL : stars [row a 256 ([]), pt s (.inr (7, [.ref a, .int (nI q), .int (bI sp), .int (bI ov)]))] h := hL
  have hL : stars [pt s (.inr (7, [.ref a, .int (nI q), .int (bI sp), .int (bI ov)])), row a 256 ([])] h := stars_ixn hL 2 rfl [1, 0] (by decide) rfl
  refine e_aload_n 8 dX9_forget_7 rfl rfl ?_
  refine e_iconst 9 (v := (nI 0)) dX9_forget_8 rfl (by decide) ?_
  refine p_put 12 hL 0 (fs' := [.ref a, .int (nI q), .int (nI 0), .int (bI ov)]) (L' := [pt s (.inr (7, [.ref a, .int (nI q), .int (nI 0), .int (bI ov)])), row a 256 ([])]) rfl rfl dX9_forget_9 rfl fp_X9_24_7 (Or.inl rfl) (Nat.le_of_ble_eq_true rfl) (by decide) rfl rfl (fun h hL => ?_)
  refine e_aload_n 13 dX9_forget_12 rfl rfl ?_
  refine e_iconst 14 (v := (nI 0)) dX9_forget_13 rfl (by decide) ?_
  refine p_put 17 hL 0 (fs' := [.ref a, .int (nI q), .int (nI 0), .int (nI 0)]) (L' := [pt s (.inr (7, [.ref a, .int (nI q), .int (nI 0), .int (nI 0)])), row a 256 ([])]) rfl rfl dX9_forget_14 rfl fp_X9_28_7 (Or.inl rfl) (Nat.le_of_ble_eq_true rfl) (by decide) rfl rfl (fun h hL => ?_)
  exact e_vret dX9_forget_17 rfl (by omega) (by omega) (⟨_, ⟨rfl, rfl⟩, stn_c (sp := false) (ov := false) (L := []) hL⟩)
