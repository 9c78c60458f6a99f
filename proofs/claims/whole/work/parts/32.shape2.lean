/-! Shape: restarts, refusals, and whether an answer fits -/
def rsF (q : List Nat) : Bool := decide (q.length = 5 ∧ q.getD 0 0 = 8 ∧ wd q 1 = 1 ∧ (wd q 3 = 0 ∨ wd q 3 = 65280))
set_option maxRecDepth 20000 in
set_option maxHeartbeats 2000000 in
/-- isRestart(q) -/
theorem k_X7_isRestart {b cb : Nat} {q : List Nat} (hq : ∀ x ∈ q, x < 256) : CA mX7_isRestart [.ref b] [row b cb q] (fun r L => r = some (.int (bI (rsF q))) ∧ L = [row b cb q]) 1 24 0 0 := by
  refine CA.mk 1 (ls := [some (.ref b), none]) rfl rfl (Nat.le_of_ble_eq_true rfl) rfl (fun h hL => ?_)
  have hlen := row_len _ 0 hL rfl
  have w1 := wd_lt (k := 1) hq
  have w3 := wd_lt (k := 3) hq
  have w7 := wd_lt (k := 7) hq
  have g0 := gd_lt (i := 0) hq (by decide)
  have g1 := gd_lt (i := 1) hq (by decide)
  have g2 := gd_lt (i := 2) hq (by decide)
  have g5 := gd_lt (i := 5) hq (by decide)
  have g9 := gd_lt (i := 9) hq (by decide)
  refine e_aload_n 1 dX7_isRestart_0 rfl rfl ?_
  refine e_iconst 2 (v := (nI 3)) dX7_isRestart_1 rfl (by decide) ?_
  refine p_callV 5 hL [0] 1 rfl (by decide) (L1 := [row b cb q]) (L2 := []) rfl row_O 0 rfl dX7_isRestart_2 rfl cv_X7_19 (k_X4_word (by omega)) rfl rfl (Nat.le_of_ble_eq_true rfl) ⟨by decide, by omega, by omega⟩ (fun r1 L1 h q hL => ?_)
  obtain ⟨rfl, rfl⟩ := q
  have hL : stars [row b cb q] h := hL
  refine e_istore_n 6 (ls' := [some (.ref b), some (.int (nI (wd q 3)))]) dX7_isRestart_5 rfl (by decide) rfl ?_
  refine e_aload_n 7 dX7_isRestart_6 rfl rfl ?_
  obtain ⟨z7, y7⟩ := row_at _ 0 hL rfl
  refine e_get 10 dX7_isRestart_7 rfl fl_X7_9_4 y7 rfl ?_
  refine e_iconst 11 (v := (nI 5)) dX7_isRestart_10 rfl (by decide) ?_
  refine e_icmp_ne 47 14 dX7_isRestart_11 rfl rfl (fun c11 => ?_) (fun c11 => ?_)
  · have k11 := j_ne_t (a := q.length) (b := 5) (by omega) (by omega) c11
    refine e_iconst 48 (v := (nI 0)) dX7_isRestart_47 rfl (by decide) ?_
    exact e_zret dX7_isRestart_48 rfl (Or.inl (by decide)) (by omega) (by omega) (⟨_, ⟨by rw [show rsF q = false by unfold rsF; (try simp only [Bool.and_eq_true, Bool.or_eq_true, Bool.not_eq_true', Bool.and_eq_false_iff, Bool.or_eq_false_iff, Bool.not_eq_false', decide_eq_true_eq, decide_eq_false_iff_not, Bool.false_or, Bool.true_or, Bool.or_false, Bool.or_true, Bool.not_false, Bool.not_true, Bool.true_and, Bool.false_and, Bool.and_true, Bool.and_false, reduceCtorEq]) <;> (try omega)]; rfl, rfl⟩, hL⟩)
  · have k11 := j_ne_f (a := q.length) (b := 5) (by omega) (by omega) c11
    refine e_aload_n 15 dX7_isRestart_14 rfl rfl ?_
    refine e_iconst 16 (v := (nI 0)) dX7_isRestart_15 rfl (by decide) ?_
    refine p_callV 19 hL [0] 1 rfl (by decide) (L1 := [row b cb q]) (L2 := []) rfl row_O 0 rfl dX7_isRestart_16 rfl cv_X7_15 (k_X4_at (by omega)) rfl rfl (Nat.le_of_ble_eq_true rfl) ⟨by decide, by omega, by omega⟩ (fun r1 L1 h q hL => ?_)
    obtain ⟨rfl, rfl⟩ := q
    have hL : stars [row b cb q] h := hL
    refine e_bipush 21 (v := (nI 8)) dX7_isRestart_19 rfl (by decide) ?_
    refine e_icmp_ne 47 24 dX7_isRestart_21 rfl rfl (fun c21 => ?_) (fun c21 => ?_)
    · have k21 := j_ne_t (a := (q.getD 0 0)) (b := 8) (by omega) (by omega) c21
      refine e_iconst 48 (v := (nI 0)) dX7_isRestart_47 rfl (by decide) ?_
      exact e_zret dX7_isRestart_48 rfl (Or.inl (by decide)) (by omega) (by omega) (⟨_, ⟨by rw [show rsF q = false by unfold rsF; (try simp only [Bool.and_eq_true, Bool.or_eq_true, Bool.not_eq_true', Bool.and_eq_false_iff, Bool.or_eq_false_iff, Bool.not_eq_false', decide_eq_true_eq, decide_eq_false_iff_not, Bool.false_or, Bool.true_or, Bool.or_false, Bool.or_true, Bool.not_false, Bool.not_true, Bool.true_and, Bool.false_and, Bool.and_true, Bool.and_false, reduceCtorEq]) <;> (try omega)]; rfl, rfl⟩, hL⟩)
    · have k21 := j_ne_f (a := (q.getD 0 0)) (b := 8) (by omega) (by omega) c21
      refine e_aload_n 25 dX7_isRestart_24 rfl rfl ?_
      refine e_iconst 26 (v := (nI 1)) dX7_isRestart_25 rfl (by decide) ?_
      refine p_callV 29 hL [0] 1 rfl (by decide) (L1 := [row b cb q]) (L2 := []) rfl row_O 0 rfl dX7_isRestart_26 rfl cv_X7_19 (k_X4_word (by omega)) rfl rfl (Nat.le_of_ble_eq_true rfl) ⟨by decide, by omega, by omega⟩ (fun r1 L1 h q hL => ?_)
      obtain ⟨rfl, rfl⟩ := q
      have hL : stars [row b cb q] h := hL
      refine e_iconst 30 (v := (nI 1)) dX7_isRestart_29 rfl (by decide) ?_
      refine e_icmp_ne 47 33 dX7_isRestart_30 rfl rfl (fun c30 => ?_) (fun c30 => ?_)
      · have k30 := j_ne_t (a := (wd q 1)) (b := 1) (by omega) (by omega) c30
        refine e_iconst 48 (v := (nI 0)) dX7_isRestart_47 rfl (by decide) ?_
        exact e_zret dX7_isRestart_48 rfl (Or.inl (by decide)) (by omega) (by omega) (⟨_, ⟨by rw [show rsF q = false by unfold rsF; (try simp only [Bool.and_eq_true, Bool.or_eq_true, Bool.not_eq_true', Bool.and_eq_false_iff, Bool.or_eq_false_iff, Bool.not_eq_false', decide_eq_true_eq, decide_eq_false_iff_not, Bool.false_or, Bool.true_or, Bool.or_false, Bool.or_true, Bool.not_false, Bool.not_true, Bool.true_and, Bool.false_and, Bool.and_true, Bool.and_false, reduceCtorEq]) <;> (try omega)]; rfl, rfl⟩, hL⟩)
      · have k30 := j_ne_f (a := (wd q 1)) (b := 1) (by omega) (by omega) c30
        refine e_iload_n 34 dX7_isRestart_33 rfl rfl ?_
        refine e_if_eq 43 37 dX7_isRestart_34 rfl rfl (fun c34 => ?_) (fun c34 => ?_)
        · have k34 := j_eq0_t (a := (wd q 3)) (by omega) c34
          refine e_iconst 44 (v := (nI 1)) dX7_isRestart_43 rfl (by decide) ?_
          refine e_goto 48 dX7_isRestart_44 rfl ?_
          exact e_zret dX7_isRestart_48 rfl (Or.inr (by decide)) (by omega) (by omega) (⟨_, ⟨by rw [show rsF q = true by unfold rsF; (try simp only [Bool.and_eq_true, Bool.or_eq_true, Bool.not_eq_true', Bool.and_eq_false_iff, Bool.or_eq_false_iff, Bool.not_eq_false', decide_eq_true_eq, decide_eq_false_iff_not, Bool.false_or, Bool.true_or, Bool.or_false, Bool.or_true, Bool.not_false, Bool.not_true, Bool.true_and, Bool.false_and, Bool.and_true, Bool.and_false, reduceCtorEq]) <;> (try omega)]; rfl, rfl⟩, hL⟩)
        · have k34 := j_eq0_f (a := (wd q 3)) (by omega) c34
          refine e_iload_n 38 dX7_isRestart_37 rfl rfl ?_
          refine e_ldc 40 (v := (nI 65280)) dX7_isRestart_38 rfl cn_X7_46 ?_
          refine e_icmp_ne 47 43 dX7_isRestart_40 rfl rfl (fun c40 => ?_) (fun c40 => ?_)
          · have k40 := j_ne_t (a := (wd q 3)) (b := 65280) (by omega) (by omega) c40
            refine e_iconst 48 (v := (nI 0)) dX7_isRestart_47 rfl (by decide) ?_
            exact e_zret dX7_isRestart_48 rfl (Or.inl (by decide)) (by omega) (by omega) (⟨_, ⟨by rw [show rsF q = false by unfold rsF; (try simp only [Bool.and_eq_true, Bool.or_eq_true, Bool.not_eq_true', Bool.and_eq_false_iff, Bool.or_eq_false_iff, Bool.not_eq_false', decide_eq_true_eq, decide_eq_false_iff_not, Bool.false_or, Bool.true_or, Bool.or_false, Bool.or_true, Bool.not_false, Bool.not_true, Bool.true_and, Bool.false_and, Bool.and_true, Bool.and_false, reduceCtorEq]) <;> (try omega)]; rfl, rfl⟩, hL⟩)
          · have k40 := j_ne_f (a := (wd q 3)) (b := 65280) (by omega) (by omega) c40
            refine e_iconst 44 (v := (nI 1)) dX7_isRestart_43 rfl (by decide) ?_
            refine e_goto 48 dX7_isRestart_44 rfl ?_
            exact e_zret dX7_isRestart_48 rfl (Or.inr (by decide)) (by omega) (by omega) (⟨_, ⟨by rw [show rsF q = true by unfold rsF; (try simp only [Bool.and_eq_true, Bool.or_eq_true, Bool.not_eq_true', Bool.and_eq_false_iff, Bool.or_eq_false_iff, Bool.not_eq_false', decide_eq_true_eq, decide_eq_false_iff_not, Bool.false_or, Bool.true_or, Bool.or_false, Bool.or_true, Bool.not_false, Bool.not_true, Bool.true_and, Bool.false_and, Bool.and_true, Bool.and_false, reduceCtorEq]) <;> (try omega)]; rfl, rfl⟩, hL⟩)
def rfF (q a : List Nat) : Bool := decide (a.length = 2 ∧ a.getD 0 0 = (q.getD 0 0 + 128) % 2 ^ 8)
set_option maxRecDepth 20000 in
set_option maxHeartbeats 2000000 in
/-- isRefusal(q, a) -/
theorem k_X7_isRefusal {b cb b2 cb2 : Nat} {q a : List Nat} (hq : ∀ x ∈ q, x < 256) (ha : ∀ x ∈ a, x < 256) : CA mX7_isRefusal [.ref b, .ref b2] [row b cb q, row b2 cb2 a] (fun r L => r = some (.int (bI (rfF q a))) ∧ L = [row b cb q, row b2 cb2 a]) 1 24 0 0 := by
  refine CA.mk 0 (ls := [some (.ref b), some (.ref b2)]) rfl rfl (Nat.le_of_ble_eq_true rfl) rfl (fun h hL => ?_)
  have hlen := row_len _ 0 hL rfl
  have w1 := wd_lt (k := 1) hq
  have w3 := wd_lt (k := 3) hq
  have w7 := wd_lt (k := 7) hq
  have g0 := gd_lt (i := 0) hq (by decide)
  have g1 := gd_lt (i := 1) hq (by decide)
  have g2 := gd_lt (i := 2) hq (by decide)
  have g5 := gd_lt (i := 5) hq (by decide)
  have g9 := gd_lt (i := 9) hq (by decide)
  have hlena := row_len _ 1 hL rfl
  have v1 := wd_lt (k := 1) ha
  have v3 := wd_lt (k := 3) ha
  have f0 := gd_lt (i := 0) ha (by decide)
  have f1 := gd_lt (i := 1) ha (by decide)
  have f6 := gd_lt (i := 6) ha (by decide)
  refine e_aload_n 1 dX7_isRefusal_0 rfl rfl ?_
  obtain ⟨z1, y1⟩ := row_at _ 1 hL rfl
  refine e_get 4 dX7_isRefusal_1 rfl fl_X7_9_4 y1 rfl ?_
  refine e_iconst 5 (v := (nI 2)) dX7_isRefusal_4 rfl (by decide) ?_
  refine e_icmp_ne 33 8 dX7_isRefusal_5 rfl rfl (fun c5 => ?_) (fun c5 => ?_)
  · have k5 := j_ne_t (a := a.length) (b := 2) (by omega) (by omega) c5
    refine e_iconst 34 (v := (nI 0)) dX7_isRefusal_33 rfl (by decide) ?_
    exact e_zret dX7_isRefusal_34 rfl (Or.inl (by decide)) (by omega) (by omega) (⟨_, ⟨by rw [show rfF q a = false by unfold rfF; (try simp only [Bool.and_eq_true, Bool.or_eq_true, Bool.not_eq_true', Bool.and_eq_false_iff, Bool.or_eq_false_iff, Bool.not_eq_false', decide_eq_true_eq, decide_eq_false_iff_not, Bool.false_or, Bool.true_or, Bool.or_false, Bool.or_true, Bool.not_false, Bool.not_true, Bool.true_and, Bool.false_and, Bool.and_true, Bool.and_false, reduceCtorEq]) <;> (try omega)]; rfl, rfl⟩, hL⟩)
  · have k5 := j_ne_f (a := a.length) (b := 2) (by omega) (by omega) c5
    refine e_aload_n 9 dX7_isRefusal_8 rfl rfl ?_
    refine e_iconst 10 (v := (nI 0)) dX7_isRefusal_9 rfl (by decide) ?_
    refine p_callV 13 hL [1, 0] 2 rfl (by decide) (L1 := [row b2 cb2 a]) (L2 := [row b cb q]) rfl row_O 1 rfl dX7_isRefusal_10 rfl cv_X7_15 (k_X4_at (by omega)) rfl rfl (Nat.le_of_ble_eq_true rfl) ⟨by decide, by omega, by omega⟩ (fun r1 L1 h q hL => ?_)
    obtain ⟨rfl, rfl⟩ := q
    have hL : stars [row b2 cb2 a, row b cb q] h := hL
    have hL : stars [row b cb q, row b2 cb2 a] h := stars_ixn hL 2 rfl [1, 0] (by decide) rfl
    refine e_aload_n 14 dX7_isRefusal_13 rfl rfl ?_
    refine e_iconst 15 (v := (nI 0)) dX7_isRefusal_14 rfl (by decide) ?_
    refine p_callV 18 hL [0, 1] 2 rfl (by decide) (L1 := [row b cb q]) (L2 := [row b2 cb2 a]) rfl row_O 0 rfl dX7_isRefusal_15 rfl cv_X7_15 (k_X4_at (by omega)) rfl rfl (Nat.le_of_ble_eq_true rfl) ⟨by decide, by omega, by omega⟩ (fun r1 L1 h q hL => ?_)
    obtain ⟨rfl, rfl⟩ := q
    have hL : stars [row b cb q, row b2 cb2 a] h := hL
    refine e_sipush 21 (v := (nI 128)) dX7_isRefusal_18 rfl (by decide) ?_
    refine e_iadd 22 (v := (nI ((q.getD 0 0) + 128))) dX7_isRefusal_21 rfl (nI_add (q.getD 0 0) 128) ?_
    refine e_sipush 25 (v := (nI 255)) dX7_isRefusal_22 rfl (by decide) ?_
    refine e_iand 26 (v := (nI ((q.getD 0 0 + 128) % 2 ^ 8))) dX7_isRefusal_25 rfl (pk_andN (by omega) 8 (by decide)) ?_
    refine e_icmp_ne 33 29 dX7_isRefusal_26 rfl rfl (fun c26 => ?_) (fun c26 => ?_)
    · have k26 := j_ne_t (a := (a.getD 0 0)) (b := ((q.getD 0 0 + 128) % 2 ^ 8)) (by omega) (by omega) c26
      refine e_iconst 34 (v := (nI 0)) dX7_isRefusal_33 rfl (by decide) ?_
      exact e_zret dX7_isRefusal_34 rfl (Or.inl (by decide)) (by omega) (by omega) (⟨_, ⟨by rw [show rfF q a = false by unfold rfF; (try simp only [Bool.and_eq_true, Bool.or_eq_true, Bool.not_eq_true', Bool.and_eq_false_iff, Bool.or_eq_false_iff, Bool.not_eq_false', decide_eq_true_eq, decide_eq_false_iff_not, Bool.false_or, Bool.true_or, Bool.or_false, Bool.or_true, Bool.not_false, Bool.not_true, Bool.true_and, Bool.false_and, Bool.and_true, Bool.and_false, reduceCtorEq]) <;> (try omega)]; rfl, rfl⟩, hL⟩)
    · have k26 := j_ne_f (a := (a.getD 0 0)) (b := ((q.getD 0 0 + 128) % 2 ^ 8)) (by omega) (by omega) c26
      refine e_iconst 30 (v := (nI 1)) dX7_isRefusal_29 rfl (by decide) ?_
      refine e_goto 34 dX7_isRefusal_30 rfl ?_
      exact e_zret dX7_isRefusal_34 rfl (Or.inr (by decide)) (by omega) (by omega) (⟨_, ⟨by rw [show rfF q a = true by unfold rfF; (try simp only [Bool.and_eq_true, Bool.or_eq_true, Bool.not_eq_true', Bool.and_eq_false_iff, Bool.or_eq_false_iff, Bool.not_eq_false', decide_eq_true_eq, decide_eq_false_iff_not, Bool.false_or, Bool.true_or, Bool.or_false, Bool.or_true, Bool.not_false, Bool.not_true, Bool.true_and, Bool.false_and, Bool.and_true, Bool.and_false, reduceCtorEq]) <;> (try omega)]; rfl, rfl⟩, hL⟩)
theorem b16 {l : List Nat} (h : ∀ x ∈ l, x < 256) : ∀ x ∈ l, x < 65536 := fun x hx => Nat.lt_trans (h x hx) (by decide)
def smF (q a : List Nat) : Bool := decide (a.length = q.length) && bgn a q q.length
set_option maxRecDepth 20000 in
set_option maxHeartbeats 2000000 in
/-- isSame(q, a) -/
theorem k_X7_isSame {b cb b2 cb2 : Nat} {q a : List Nat} (hq : ∀ x ∈ q, x < 256) (ha : ∀ x ∈ a, x < 256) : CA mX7_isSame [.ref b, .ref b2] [row b cb q, row b2 cb2 a] (fun r L => r = some (.int (bI (smF q a))) ∧ L = [row b cb q, row b2 cb2 a]) 1 24 0 0 := by
  refine CA.mk 0 (ls := [some (.ref b), some (.ref b2)]) rfl rfl (Nat.le_of_ble_eq_true rfl) rfl (fun h hL => ?_)
  have hlen := row_len _ 0 hL rfl
  have w1 := wd_lt (k := 1) hq
  have w3 := wd_lt (k := 3) hq
  have w7 := wd_lt (k := 7) hq
  have g0 := gd_lt (i := 0) hq (by decide)
  have g1 := gd_lt (i := 1) hq (by decide)
  have g2 := gd_lt (i := 2) hq (by decide)
  have g5 := gd_lt (i := 5) hq (by decide)
  have g9 := gd_lt (i := 9) hq (by decide)
  have hlena := row_len _ 1 hL rfl
  have v1 := wd_lt (k := 1) ha
  have v3 := wd_lt (k := 3) ha
  have f0 := gd_lt (i := 0) ha (by decide)
  have f1 := gd_lt (i := 1) ha (by decide)
  have f6 := gd_lt (i := 6) ha (by decide)
  refine e_aload_n 1 dX7_isSame_0 rfl rfl ?_
  obtain ⟨z1, y1⟩ := row_at _ 1 hL rfl
  refine e_get 4 dX7_isSame_1 rfl fl_X7_9_4 y1 rfl ?_
  refine e_aload_n 5 dX7_isSame_4 rfl rfl ?_
  obtain ⟨z5, y5⟩ := row_at _ 0 hL rfl
  refine e_get 8 dX7_isSame_5 rfl fl_X7_9_4 y5 rfl ?_
  refine e_icmp_ne 27 11 dX7_isSame_8 rfl rfl (fun c8 => ?_) (fun c8 => ?_)
  · have k8 := j_ne_t (a := a.length) (b := q.length) (by omega) (by omega) c8
    refine e_iconst 28 (v := (nI 0)) dX7_isSame_27 rfl (by decide) ?_
    exact e_zret dX7_isSame_28 rfl (Or.inl (by decide)) (by omega) (by omega) (⟨_, ⟨by rw [show smF q a = false by unfold smF; first | (rw [k20]; (try simp only [Bool.and_eq_true, Bool.or_eq_true, Bool.not_eq_true', Bool.and_eq_false_iff, Bool.or_eq_false_iff, Bool.not_eq_false', decide_eq_true_eq, decide_eq_false_iff_not, Bool.false_or, Bool.true_or, Bool.or_false, Bool.or_true, Bool.not_false, Bool.not_true, Bool.true_and, Bool.false_and, Bool.and_true, Bool.and_false, reduceCtorEq]) <;> (try omega)) | ((try simp only [Bool.and_eq_true, Bool.or_eq_true, Bool.not_eq_true', Bool.and_eq_false_iff, Bool.or_eq_false_iff, Bool.not_eq_false', decide_eq_true_eq, decide_eq_false_iff_not, Bool.false_or, Bool.true_or, Bool.or_false, Bool.or_true, Bool.not_false, Bool.not_true, Bool.true_and, Bool.false_and, Bool.and_true, Bool.and_false, reduceCtorEq]) <;> (try omega))]; rfl, rfl⟩, hL⟩)
  · have k8 := j_ne_f (a := a.length) (b := q.length) (by omega) (by omega) c8
    refine e_aload_n 12 dX7_isSame_11 rfl rfl ?_
    refine e_aload_n 13 dX7_isSame_12 rfl rfl ?_
    refine e_aload_n 14 dX7_isSame_13 rfl rfl ?_
    obtain ⟨z14, y14⟩ := row_at _ 0 hL rfl
    refine e_get 17 dX7_isSame_14 rfl fl_X7_9_4 y14 rfl ?_
    refine p_callV 20 hL [1, 0] 2 rfl (by decide) (L1 := [row b2 cb2 a, row b cb q]) (L2 := []) rfl row_O 1 rfl dX7_isSame_17 rfl cv_X7_54 (k_X4_beginsAs (by omega) (b16 ha) (b16 hq)) rfl rfl (Nat.le_of_ble_eq_true rfl) ⟨by decide, by omega, by omega⟩ (fun r1 L1 h q hL => ?_)
    obtain ⟨rfl, rfl⟩ := q
    have hL : stars [row b2 cb2 a, row b cb q] h := hL
    have hL : stars [row b cb q, row b2 cb2 a] h := stars_ixn hL 2 rfl [1, 0] (by decide) rfl
    refine e_if_eq 27 23 dX7_isSame_20 rfl rfl (fun c20 => ?_) (fun c20 => ?_)
    · have k20 := jb_eq_t c20
      refine e_iconst 28 (v := (nI 0)) dX7_isSame_27 rfl (by decide) ?_
      exact e_zret dX7_isSame_28 rfl (Or.inl (by decide)) (by omega) (by omega) (⟨_, ⟨by rw [show smF q a = false by unfold smF; first | (rw [k20]; (try simp only [Bool.and_eq_true, Bool.or_eq_true, Bool.not_eq_true', Bool.and_eq_false_iff, Bool.or_eq_false_iff, Bool.not_eq_false', decide_eq_true_eq, decide_eq_false_iff_not, Bool.false_or, Bool.true_or, Bool.or_false, Bool.or_true, Bool.not_false, Bool.not_true, Bool.true_and, Bool.false_and, Bool.and_true, Bool.and_false, reduceCtorEq]) <;> (try omega)) | ((try simp only [Bool.and_eq_true, Bool.or_eq_true, Bool.not_eq_true', Bool.and_eq_false_iff, Bool.or_eq_false_iff, Bool.not_eq_false', decide_eq_true_eq, decide_eq_false_iff_not, Bool.false_or, Bool.true_or, Bool.or_false, Bool.or_true, Bool.not_false, Bool.not_true, Bool.true_and, Bool.false_and, Bool.and_true, Bool.and_false, reduceCtorEq]) <;> (try omega))]; rfl, rfl⟩, hL⟩)
    · have k20 := jb_eq_f c20
      refine e_iconst 24 (v := (nI 1)) dX7_isSame_23 rfl (by decide) ?_
      refine e_goto 28 dX7_isSame_24 rfl ?_
      exact e_zret dX7_isSame_28 rfl (Or.inr (by decide)) (by omega) (by omega) (⟨_, ⟨by rw [show smF q a = true by unfold smF; first | (rw [k20]; (try simp only [Bool.and_eq_true, Bool.or_eq_true, Bool.not_eq_true', Bool.and_eq_false_iff, Bool.or_eq_false_iff, Bool.not_eq_false', decide_eq_true_eq, decide_eq_false_iff_not, Bool.false_or, Bool.true_or, Bool.or_false, Bool.or_true, Bool.not_false, Bool.not_true, Bool.true_and, Bool.false_and, Bool.and_true, Bool.and_false, reduceCtorEq]) <;> (try omega)) | ((try simp only [Bool.and_eq_true, Bool.or_eq_true, Bool.not_eq_true', Bool.and_eq_false_iff, Bool.or_eq_false_iff, Bool.not_eq_false', decide_eq_true_eq, decide_eq_false_iff_not, Bool.false_or, Bool.true_or, Bool.or_false, Bool.or_true, Bool.not_false, Bool.not_true, Bool.true_and, Bool.false_and, Bool.and_true, Bool.and_false, reduceCtorEq]) <;> (try omega))]; rfl, rfl⟩, hL⟩)
def dfF (q a : List Nat) : Bool := if wd q 1 = 0 ∨ wd q 1 = 1 ∨ wd q 1 = 10 ∨ wd q 1 = 20 then smF q a else decide (wd q 1 ≠ 4 ∧ a.length = 5) && bgn a q 3
set_option maxRecDepth 20000 in
set_option maxHeartbeats 2000000 in
/-- diagnosisFits(q, a) -/
theorem k_X7_diagnosisFits {b cb b2 cb2 : Nat} {q a : List Nat} (hq : ∀ x ∈ q, x < 256) (ha : ∀ x ∈ a, x < 256) : CA mX7_diagnosisFits [.ref b, .ref b2] [row b cb q, row b2 cb2 a] (fun r L => r = some (.int (bI (dfF q a))) ∧ L = [row b cb q, row b2 cb2 a]) 2 45 0 0 := by
  refine CA.mk 1 (ls := [some (.ref b), some (.ref b2), none]) rfl rfl (Nat.le_of_ble_eq_true rfl) rfl (fun h hL => ?_)
  have hlen := row_len _ 0 hL rfl
  have w1 := wd_lt (k := 1) hq
  have w3 := wd_lt (k := 3) hq
  have w7 := wd_lt (k := 7) hq
  have g0 := gd_lt (i := 0) hq (by decide)
  have g1 := gd_lt (i := 1) hq (by decide)
  have g2 := gd_lt (i := 2) hq (by decide)
  have g5 := gd_lt (i := 5) hq (by decide)
  have g9 := gd_lt (i := 9) hq (by decide)
  have hlena := row_len _ 1 hL rfl
  have v1 := wd_lt (k := 1) ha
  have v3 := wd_lt (k := 3) ha
  have f0 := gd_lt (i := 0) ha (by decide)
  have f1 := gd_lt (i := 1) ha (by decide)
  have f6 := gd_lt (i := 6) ha (by decide)
  refine e_aload_n 1 dX7_diagnosisFits_0 rfl rfl ?_
  refine e_iconst 2 (v := (nI 1)) dX7_diagnosisFits_1 rfl (by decide) ?_
  refine p_callV 5 hL [0, 1] 2 rfl (by decide) (L1 := [row b cb q]) (L2 := [row b2 cb2 a]) rfl row_O 0 rfl dX7_diagnosisFits_2 rfl cv_X7_19 (k_X4_word (by omega)) rfl rfl (Nat.le_of_ble_eq_true rfl) ⟨by decide, by omega, by omega⟩ (fun r1 L1 h q hL => ?_)
  obtain ⟨rfl, rfl⟩ := q
  have hL : stars [row b cb q, row b2 cb2 a] h := hL
  refine e_istore_n 6 (ls' := [some (.ref b), some (.ref b2), some (.int (nI (wd q 1)))]) dX7_diagnosisFits_5 rfl (by decide) rfl ?_
  refine e_iload_n 7 dX7_diagnosisFits_6 rfl rfl ?_
  refine e_if_eq 27 10 dX7_diagnosisFits_7 rfl rfl (fun c7 => ?_) (fun c7 => ?_)
  · have k7 := j_eq0_t (a := (wd q 1)) (by omega) c7
    refine e_aload_n 28 dX7_diagnosisFits_27 rfl rfl ?_
    refine e_aload_n 29 dX7_diagnosisFits_28 rfl rfl ?_
    refine p_callS 32 hL [0, 1] 2 rfl (by decide) (L1 := [row b cb q, row b2 cb2 a]) (L2 := []) rfl dX7_diagnosisFits_29 rfl cs_X7_64 (k_X7_isSame hq ha) rfl rfl (Nat.le_of_ble_eq_true rfl) ⟨by decide, by omega, by omega⟩ (fun r1 L1 h q hL => ?_)
    obtain ⟨rfl, rfl⟩ := q
    have hL : stars [row b cb q, row b2 cb2 a] h := hL
    exact e_zret dX7_diagnosisFits_32 rfl (bI_01 _) (by omega) (by omega) (⟨_, ⟨by (rw [dfF, if_pos (by omega)]) <;> rfl, rfl⟩, hL⟩)
  · have k7 := j_eq0_f (a := (wd q 1)) (by omega) c7
    refine e_iload_n 11 dX7_diagnosisFits_10 rfl rfl ?_
    refine e_iconst 12 (v := (nI 1)) dX7_diagnosisFits_11 rfl (by decide) ?_
    refine e_icmp_eq 27 15 dX7_diagnosisFits_12 rfl rfl (fun c12 => ?_) (fun c12 => ?_)
    · have k12 := j_eq_t (a := (wd q 1)) (b := 1) (by omega) (by omega) c12
      refine e_aload_n 28 dX7_diagnosisFits_27 rfl rfl ?_
      refine e_aload_n 29 dX7_diagnosisFits_28 rfl rfl ?_
      refine p_callS 32 hL [0, 1] 2 rfl (by decide) (L1 := [row b cb q, row b2 cb2 a]) (L2 := []) rfl dX7_diagnosisFits_29 rfl cs_X7_64 (k_X7_isSame hq ha) rfl rfl (Nat.le_of_ble_eq_true rfl) ⟨by decide, by omega, by omega⟩ (fun r1 L1 h q hL => ?_)
      obtain ⟨rfl, rfl⟩ := q
      have hL : stars [row b cb q, row b2 cb2 a] h := hL
      exact e_zret dX7_diagnosisFits_32 rfl (bI_01 _) (by omega) (by omega) (⟨_, ⟨by (rw [dfF, if_pos (by omega)]) <;> rfl, rfl⟩, hL⟩)
    · have k12 := j_eq_f (a := (wd q 1)) (b := 1) (by omega) (by omega) c12
      refine e_iload_n 16 dX7_diagnosisFits_15 rfl rfl ?_
      refine e_bipush 18 (v := (nI 10)) dX7_diagnosisFits_16 rfl (by decide) ?_
      refine e_icmp_eq 27 21 dX7_diagnosisFits_18 rfl rfl (fun c18 => ?_) (fun c18 => ?_)
      · have k18 := j_eq_t (a := (wd q 1)) (b := 10) (by omega) (by omega) c18
        refine e_aload_n 28 dX7_diagnosisFits_27 rfl rfl ?_
        refine e_aload_n 29 dX7_diagnosisFits_28 rfl rfl ?_
        refine p_callS 32 hL [0, 1] 2 rfl (by decide) (L1 := [row b cb q, row b2 cb2 a]) (L2 := []) rfl dX7_diagnosisFits_29 rfl cs_X7_64 (k_X7_isSame hq ha) rfl rfl (Nat.le_of_ble_eq_true rfl) ⟨by decide, by omega, by omega⟩ (fun r1 L1 h q hL => ?_)
        obtain ⟨rfl, rfl⟩ := q
        have hL : stars [row b cb q, row b2 cb2 a] h := hL
        exact e_zret dX7_diagnosisFits_32 rfl (bI_01 _) (by omega) (by omega) (⟨_, ⟨by (rw [dfF, if_pos (by omega)]) <;> rfl, rfl⟩, hL⟩)
      · have k18 := j_eq_f (a := (wd q 1)) (b := 10) (by omega) (by omega) c18
        refine e_iload_n 22 dX7_diagnosisFits_21 rfl rfl ?_
        refine e_bipush 24 (v := (nI 20)) dX7_diagnosisFits_22 rfl (by decide) ?_
        refine e_icmp_ne 33 27 dX7_diagnosisFits_24 rfl rfl (fun c24 => ?_) (fun c24 => ?_)
        · have k24 := j_ne_t (a := (wd q 1)) (b := 20) (by omega) (by omega) c24
          refine e_iload_n 34 dX7_diagnosisFits_33 rfl rfl ?_
          refine e_iconst 35 (v := (nI 4)) dX7_diagnosisFits_34 rfl (by decide) ?_
          refine e_icmp_eq 59 38 dX7_diagnosisFits_35 rfl rfl (fun c35 => ?_) (fun c35 => ?_)
          · have k35 := j_eq_t (a := (wd q 1)) (b := 4) (by omega) (by omega) c35
            refine e_iconst 60 (v := (nI 0)) dX7_diagnosisFits_59 rfl (by decide) ?_
            exact e_zret dX7_diagnosisFits_60 rfl (Or.inl (by decide)) (by omega) (by omega) (⟨_, ⟨by (rw [dfF, if_neg (by omega)]) <;> (first | (rw [k52]; rw [decide_eq_true (by omega)]; rfl) | (rw [k52, Bool.and_false]; rfl) | (rw [decide_eq_false (by omega)]; rfl)), rfl⟩, hL⟩)
          · have k35 := j_eq_f (a := (wd q 1)) (b := 4) (by omega) (by omega) c35
            refine e_aload_n 39 dX7_diagnosisFits_38 rfl rfl ?_
            obtain ⟨z39, y39⟩ := row_at _ 1 hL rfl
            refine e_get 42 dX7_diagnosisFits_39 rfl fl_X7_9_4 y39 rfl ?_
            refine e_iconst 43 (v := (nI 5)) dX7_diagnosisFits_42 rfl (by decide) ?_
            refine e_icmp_ne 59 46 dX7_diagnosisFits_43 rfl rfl (fun c43 => ?_) (fun c43 => ?_)
            · have k43 := j_ne_t (a := a.length) (b := 5) (by omega) (by omega) c43
              refine e_iconst 60 (v := (nI 0)) dX7_diagnosisFits_59 rfl (by decide) ?_
              exact e_zret dX7_diagnosisFits_60 rfl (Or.inl (by decide)) (by omega) (by omega) (⟨_, ⟨by (rw [dfF, if_neg (by omega)]) <;> (first | (rw [k52]; rw [decide_eq_true (by omega)]; rfl) | (rw [k52, Bool.and_false]; rfl) | (rw [decide_eq_false (by omega)]; rfl)), rfl⟩, hL⟩)
            · have k43 := j_ne_f (a := a.length) (b := 5) (by omega) (by omega) c43
              refine e_aload_n 47 dX7_diagnosisFits_46 rfl rfl ?_
              refine e_aload_n 48 dX7_diagnosisFits_47 rfl rfl ?_
              refine e_iconst 49 (v := (nI 3)) dX7_diagnosisFits_48 rfl (by decide) ?_
              refine p_callV 52 hL [1, 0] 2 rfl (by decide) (L1 := [row b2 cb2 a, row b cb q]) (L2 := []) rfl row_O 1 rfl dX7_diagnosisFits_49 rfl cv_X7_54 (k_X4_beginsAs (by omega) (b16 ha) (b16 hq)) rfl rfl (Nat.le_of_ble_eq_true rfl) ⟨by decide, by omega, by omega⟩ (fun r1 L1 h q hL => ?_)
              obtain ⟨rfl, rfl⟩ := q
              have hL : stars [row b2 cb2 a, row b cb q] h := hL
              have hL : stars [row b cb q, row b2 cb2 a] h := stars_ixn hL 2 rfl [1, 0] (by decide) rfl
              refine e_if_eq 59 55 dX7_diagnosisFits_52 rfl rfl (fun c52 => ?_) (fun c52 => ?_)
              · have k52 := jb_eq_t c52
                refine e_iconst 60 (v := (nI 0)) dX7_diagnosisFits_59 rfl (by decide) ?_
                exact e_zret dX7_diagnosisFits_60 rfl (Or.inl (by decide)) (by omega) (by omega) (⟨_, ⟨by (rw [dfF, if_neg (by omega)]) <;> (first | (rw [k52]; rw [decide_eq_true (by omega)]; rfl) | (rw [k52, Bool.and_false]; rfl) | (rw [decide_eq_false (by omega)]; rfl)), rfl⟩, hL⟩)
              · have k52 := jb_eq_f c52
                refine e_iconst 56 (v := (nI 1)) dX7_diagnosisFits_55 rfl (by decide) ?_
                refine e_goto 60 dX7_diagnosisFits_56 rfl ?_
                exact e_zret dX7_diagnosisFits_60 rfl (Or.inr (by decide)) (by omega) (by omega) (⟨_, ⟨by (rw [dfF, if_neg (by omega)]) <;> (first | (rw [k52]; rw [decide_eq_true (by omega)]; rfl) | (rw [k52, Bool.and_false]; rfl) | (rw [decide_eq_false (by omega)]; rfl)), rfl⟩, hL⟩)
        · have k24 := j_ne_f (a := (wd q 1)) (b := 20) (by omega) (by omega) c24
          refine e_aload_n 28 dX7_diagnosisFits_27 rfl rfl ?_
          refine e_aload_n 29 dX7_diagnosisFits_28 rfl rfl ?_
          refine p_callS 32 hL [0, 1] 2 rfl (by decide) (L1 := [row b cb q, row b2 cb2 a]) (L2 := []) rfl dX7_diagnosisFits_29 rfl cs_X7_64 (k_X7_isSame hq ha) rfl rfl (Nat.le_of_ble_eq_true rfl) ⟨by decide, by omega, by omega⟩ (fun r1 L1 h q hL => ?_)
          obtain ⟨rfl, rfl⟩ := q
          have hL : stars [row b cb q, row b2 cb2 a] h := hL
          exact e_zret dX7_diagnosisFits_32 rfl (bI_01 _) (by omega) (by omega) (⟨_, ⟨by (rw [dfF, if_pos (by omega)]) <;> rfl, rfl⟩, hL⟩)
def ptF (q a : List Nat) : Nat → Nat → Nat → Bool
  | 0, _, k => decide (k = a.length)
  | t + 1, j, k => if k + 2 + 2 * wd q (2 + 7 * j + 5) ≤ a.length ∧ a.getD k 0 = 1 + 2 * wd q (2 + 7 * j + 5) ∧ a.getD (k + 1) 0 = 6 then ptF q a t (j + 1) (k + (2 + 2 * wd q (2 + 7 * j + 5))) else false
set_option maxRecDepth 20000 in
set_option maxHeartbeats 2000000 in
theorem l_X7_partsFit {b cb b2 cb2 : Nat} {q a : List Nat} (hq : ∀ x ∈ q, x < 256) (ha : ∀ x ∈ a, x < 256) {T : Nat} (h7 : q.length = 2 + 7 * T) (hl9 : q.length ≤ 70000 ∧ a.length ≤ 70000) : ∀ (n : Nat) (t j k : Nat) (h : eH), t < n → j + t = T → k ≤ a.length + 2 → ptF q a t j k = ptF q a T 0 2 → stars [row b cb q, row b2 cb2 a] h → EE mX7_partsFit 1 24 0 0 (fun r h' => ∃ L', (r = some (.int (bI (ptF q a T 0 2))) ∧ L' = [row b cb q, row b2 cb2 a]) ∧ stars L' h') 4 [some (.ref b), some (.ref b2), some (.int (nI k)), some (.int (nI (2 + 7 * j))), none] [] h 0 0 := by
  intro n
  induction n with
  | zero => intro t j k h hlt hjt hk he hL; exact absurd hlt (by omega)
  | succ n ih =>
    intro t j k h hlt hjt hk he hL
    have hwj := wd_lt (k := 2 + 7 * j + 5) hq
    have hf1 := gd_lt (i := k) ha (by decide)
    have hf2 := gd_lt (i := k + 1) ha (by decide)
    refine e_iload_n 5 dX7_partsFit_4 rfl rfl ?_
    refine e_bipush 7 (v := (nI 7)) dX7_partsFit_5 rfl (by decide) ?_
    refine e_iadd 8 (v := (nI ((2 + 7 * j) + 7))) dX7_partsFit_7 rfl (nI_add (2 + 7 * j) 7) ?_
    refine e_aload_n 9 dX7_partsFit_8 rfl rfl ?_
    obtain ⟨z9, y9⟩ := row_at _ 0 hL rfl
    refine e_get 12 dX7_partsFit_9 rfl fl_X7_9_4 y9 rfl ?_
    refine e_icmp_gt 78 15 dX7_partsFit_12 rfl rfl (fun c12 => ?_) (fun c12 => ?_)
    · have k12 := j_gt_t (a := ((2 + 7 * j) + 7)) (b := q.length) (by omega) (by omega) c12
      refine e_iload_n 79 dX7_partsFit_78 rfl rfl ?_
      refine e_aload_n 80 dX7_partsFit_79 rfl rfl ?_
      obtain ⟨z80, y80⟩ := row_at _ 1 hL rfl
      refine e_get 83 dX7_partsFit_80 rfl fl_X7_9_4 y80 rfl ?_
      refine e_icmp_ne 90 86 dX7_partsFit_83 rfl rfl (fun c83 => ?_) (fun c83 => ?_)
      · have k83 := j_ne_t (a := k) (b := a.length) (by omega) (by omega) c83
        refine e_iconst 91 (v := (nI 0)) dX7_partsFit_90 rfl (by decide) ?_
        exact e_zret dX7_partsFit_91 rfl (Or.inl (by decide)) (by omega) (by omega) (⟨_, ⟨by rw [show ptF q a T 0 2 = false by rw [← he, show t = 0 by omega, ptF]; (try simp only [Bool.and_eq_true, Bool.or_eq_true, Bool.not_eq_true', Bool.and_eq_false_iff, Bool.or_eq_false_iff, Bool.not_eq_false', decide_eq_true_eq, decide_eq_false_iff_not, Bool.false_or, Bool.true_or, Bool.or_false, Bool.or_true, Bool.not_false, Bool.not_true, Bool.true_and, Bool.false_and, Bool.and_true, Bool.and_false, reduceCtorEq]) <;> (try omega)]; rfl, rfl⟩, hL⟩)
      · have k83 := j_ne_f (a := k) (b := a.length) (by omega) (by omega) c83
        refine e_iconst 87 (v := (nI 1)) dX7_partsFit_86 rfl (by decide) ?_
        refine e_goto 91 dX7_partsFit_87 rfl ?_
        exact e_zret dX7_partsFit_91 rfl (Or.inr (by decide)) (by omega) (by omega) (⟨_, ⟨by rw [show ptF q a T 0 2 = true by rw [← he, show t = 0 by omega, ptF]; (try simp only [Bool.and_eq_true, Bool.or_eq_true, Bool.not_eq_true', Bool.and_eq_false_iff, Bool.or_eq_false_iff, Bool.not_eq_false', decide_eq_true_eq, decide_eq_false_iff_not, Bool.false_or, Bool.true_or, Bool.or_false, Bool.or_true, Bool.not_false, Bool.not_true, Bool.true_and, Bool.false_and, Bool.and_true, Bool.and_false, reduceCtorEq]) <;> (try omega)]; rfl, rfl⟩, hL⟩)
    · have k12 := j_gt_f (a := ((2 + 7 * j) + 7)) (b := q.length) (by omega) (by omega) c12
      refine e_iconst 16 (v := (nI 2)) dX7_partsFit_15 rfl (by decide) ?_
      refine e_aload_n 17 dX7_partsFit_16 rfl rfl ?_
      refine e_iload_n 18 dX7_partsFit_17 rfl rfl ?_
      refine e_iconst 19 (v := (nI 5)) dX7_partsFit_18 rfl (by decide) ?_
      refine e_iadd 20 (v := (nI ((2 + 7 * j) + 5))) dX7_partsFit_19 rfl (nI_add (2 + 7 * j) 5) ?_
      refine p_callV 23 hL [0, 1] 2 rfl (by decide) (L1 := [row b cb q]) (L2 := [row b2 cb2 a]) rfl row_O 0 rfl dX7_partsFit_20 rfl cv_X7_19 (k_X4_word (by omega)) rfl rfl (Nat.le_of_ble_eq_true rfl) ⟨by decide, by omega, by omega⟩ (fun r1 L1 h q hL => ?_)
      obtain ⟨rfl, rfl⟩ := q
      have hL : stars [row b cb q, row b2 cb2 a] h := hL
      refine e_imul 24 (v := (nI (2 * (wd q ((2 + 7 * j) + 5))))) dX7_partsFit_23 rfl (pk_mul 2 (wd q ((2 + 7 * j) + 5))) ?_
      refine e_istore 26 (ls' := [some (.ref b), some (.ref b2), some (.int (nI k)), some (.int (nI (2 + 7 * j))), some (.int (nI (2 * (wd q ((2 + 7 * j) + 5)))))]) dX7_partsFit_24 rfl (by decide) rfl ?_
      refine e_iload_n 27 dX7_partsFit_26 rfl rfl ?_
      refine e_iconst 28 (v := (nI 2)) dX7_partsFit_27 rfl (by decide) ?_
      refine e_iadd 29 (v := (nI (k + 2))) dX7_partsFit_28 rfl (nI_add k 2) ?_
      refine e_iload 31 dX7_partsFit_29 rfl rfl ?_
      refine e_iadd 32 (v := (nI ((k + 2) + (2 * (wd q ((2 + 7 * j) + 5)))))) dX7_partsFit_31 rfl (nI_add (k + 2) (2 * (wd q ((2 + 7 * j) + 5)))) ?_
      refine e_aload_n 33 dX7_partsFit_32 rfl rfl ?_
      obtain ⟨z33, y33⟩ := row_at _ 1 hL rfl
      refine e_get 36 dX7_partsFit_33 rfl fl_X7_9_4 y33 rfl ?_
      refine e_icmp_gt 63 39 dX7_partsFit_36 rfl rfl (fun c36 => ?_) (fun c36 => ?_)
      · have k36 := j_gt_t (a := ((k + 2) + (2 * (wd q ((2 + 7 * j) + 5))))) (b := a.length) (by omega) (by omega) c36
        refine e_iconst 64 (v := (nI 0)) dX7_partsFit_63 rfl (by decide) ?_
        exact e_zret dX7_partsFit_64 rfl (Or.inl (by decide)) (by omega) (by omega) (⟨_, ⟨by rw [show ptF q a T 0 2 = false by rw [← he, show t = t - 1 + 1 by omega, ptF, if_neg (by omega)]]; rfl, rfl⟩, hL⟩)
      · have k36 := j_gt_f (a := ((k + 2) + (2 * (wd q ((2 + 7 * j) + 5))))) (b := a.length) (by omega) (by omega) c36
        refine e_aload_n 40 dX7_partsFit_39 rfl rfl ?_
        refine e_iload_n 41 dX7_partsFit_40 rfl rfl ?_
        refine p_callV 44 hL [1, 0] 2 rfl (by decide) (L1 := [row b2 cb2 a]) (L2 := [row b cb q]) rfl row_O 1 rfl dX7_partsFit_41 rfl cv_X7_15 (k_X4_at (by omega)) rfl rfl (Nat.le_of_ble_eq_true rfl) ⟨by decide, by omega, by omega⟩ (fun r1 L1 h q hL => ?_)
        obtain ⟨rfl, rfl⟩ := q
        have hL : stars [row b2 cb2 a, row b cb q] h := hL
        have hL : stars [row b cb q, row b2 cb2 a] h := stars_ixn hL 2 rfl [1, 0] (by decide) rfl
        refine e_iconst 45 (v := (nI 1)) dX7_partsFit_44 rfl (by decide) ?_
        refine e_iload 47 dX7_partsFit_45 rfl rfl ?_
        refine e_iadd 48 (v := (nI (1 + (2 * (wd q ((2 + 7 * j) + 5)))))) dX7_partsFit_47 rfl (nI_add 1 (2 * (wd q ((2 + 7 * j) + 5)))) ?_
        refine e_icmp_ne 63 51 dX7_partsFit_48 rfl rfl (fun c48 => ?_) (fun c48 => ?_)
        · have k48 := j_ne_t (a := (a.getD k 0)) (b := (1 + (2 * (wd q ((2 + 7 * j) + 5))))) (by omega) (by omega) c48
          refine e_iconst 64 (v := (nI 0)) dX7_partsFit_63 rfl (by decide) ?_
          exact e_zret dX7_partsFit_64 rfl (Or.inl (by decide)) (by omega) (by omega) (⟨_, ⟨by rw [show ptF q a T 0 2 = false by rw [← he, show t = t - 1 + 1 by omega, ptF, if_neg (by omega)]]; rfl, rfl⟩, hL⟩)
        · have k48 := j_ne_f (a := (a.getD k 0)) (b := (1 + (2 * (wd q ((2 + 7 * j) + 5))))) (by omega) (by omega) c48
          refine e_aload_n 52 dX7_partsFit_51 rfl rfl ?_
          refine e_iload_n 53 dX7_partsFit_52 rfl rfl ?_
          refine e_iconst 54 (v := (nI 1)) dX7_partsFit_53 rfl (by decide) ?_
          refine e_iadd 55 (v := (nI (k + 1))) dX7_partsFit_54 rfl (nI_add k 1) ?_
          refine p_callV 58 hL [1, 0] 2 rfl (by decide) (L1 := [row b2 cb2 a]) (L2 := [row b cb q]) rfl row_O 1 rfl dX7_partsFit_55 rfl cv_X7_15 (k_X4_at (by omega)) rfl rfl (Nat.le_of_ble_eq_true rfl) ⟨by decide, by omega, by omega⟩ (fun r1 L1 h q hL => ?_)
          obtain ⟨rfl, rfl⟩ := q
          have hL : stars [row b2 cb2 a, row b cb q] h := hL
          have hL : stars [row b cb q, row b2 cb2 a] h := stars_ixn hL 2 rfl [1, 0] (by decide) rfl
          refine e_bipush 60 (v := (nI 6)) dX7_partsFit_58 rfl (by decide) ?_
          refine e_icmp_eq 65 63 dX7_partsFit_60 rfl rfl (fun c60 => ?_) (fun c60 => ?_)
          · have k60 := j_eq_t (a := (a.getD (k + 1) 0)) (b := 6) (by omega) (by omega) c60
            refine e_iload_n 66 dX7_partsFit_65 rfl rfl ?_
            refine e_iconst 67 (v := (nI 2)) dX7_partsFit_66 rfl (by decide) ?_
            refine e_iload 69 dX7_partsFit_67 rfl rfl ?_
            refine e_iadd 70 (v := (nI (2 + (2 * (wd q ((2 + 7 * j) + 5)))))) dX7_partsFit_69 rfl (nI_add 2 (2 * (wd q ((2 + 7 * j) + 5)))) ?_
            refine e_iadd 71 (v := (nI (k + (2 + (2 * (wd q ((2 + 7 * j) + 5))))))) dX7_partsFit_70 rfl (nI_add k (2 + (2 * (wd q ((2 + 7 * j) + 5))))) ?_
            refine e_istore_n 72 (ls' := [some (.ref b), some (.ref b2), some (.int (nI (k + (2 + (2 * (wd q ((2 + 7 * j) + 5))))))), some (.int (nI (2 + 7 * j))), some (.int (nI (2 * (wd q ((2 + 7 * j) + 5)))))]) dX7_partsFit_71 rfl (by decide) rfl ?_
            refine e_iinc 75 (v := (nI ((2 + 7 * j) + 7))) (ls' := [some (.ref b), some (.ref b2), some (.int (nI (k + (2 + (2 * (wd q ((2 + 7 * j) + 5))))))), some (.int (nI ((2 + 7 * j) + 7))), some (.int (nI (2 * (wd q ((2 + 7 * j) + 5)))))]) dX7_partsFit_72 rfl rfl (nI_add (2 + 7 * j) 7) (by decide) rfl ?_
            refine e_goto 4 dX7_partsFit_75 rfl ?_
            obtain ⟨t, rfl⟩ : ∃ t1, t = t1 + 1 := ⟨t - 1, by omega⟩
            refine e_wk [some (.ref b), some (.ref b2), some (.int (nI (k + (2 + 2 * wd q (2 + 7 * j + 5))))), some (.int (nI (2 + 7 * (j + 1)))), none] ⟨rfl, rfl, rfl, by rw [show 2 + 7 * (j + 1) = 2 + 7 * j + 7 by omega], trivial⟩ ?_
            exact ih t (j + 1) (k + (2 + 2 * wd q (2 + 7 * j + 5))) h (by omega) (by omega) (by omega) (by rw [← he, ptF, if_pos (by omega)]) hL
          · have k60 := j_eq_f (a := (a.getD (k + 1) 0)) (b := 6) (by omega) (by omega) c60
            refine e_iconst 64 (v := (nI 0)) dX7_partsFit_63 rfl (by decide) ?_
            exact e_zret dX7_partsFit_64 rfl (Or.inl (by decide)) (by omega) (by omega) (⟨_, ⟨by rw [show ptF q a T 0 2 = false by rw [← he, show t = t - 1 + 1 by omega, ptF, if_neg (by omega)]]; rfl, rfl⟩, hL⟩)
set_option maxRecDepth 20000 in
set_option maxHeartbeats 2000000 in
/-- partsFit(q, a) -/
theorem k_X7_partsFit {b cb b2 cb2 : Nat} {q a : List Nat} (hq : ∀ x ∈ q, x < 256) (ha : ∀ x ∈ a, x < 256) {T : Nat} (h7 : q.length = 2 + 7 * T) (hl9 : q.length ≤ 70000 ∧ a.length ≤ 70000) : CA mX7_partsFit [.ref b, .ref b2] [row b cb q, row b2 cb2 a] (fun r L => r = some (.int (bI (ptF q a T 0 2))) ∧ L = [row b cb q, row b2 cb2 a]) 1 24 0 0 := by
  refine CA.mk 3 (ls := [some (.ref b), some (.ref b2), none, none, none]) rfl rfl (Nat.le_of_ble_eq_true rfl) rfl (fun h hL => ?_)
  refine e_iconst 1 (v := (nI 2)) dX7_partsFit_0 rfl (by decide) ?_
  refine e_istore_n 2 (ls' := [some (.ref b), some (.ref b2), some (.int (nI 2)), none, none]) dX7_partsFit_1 rfl (by decide) rfl ?_
  refine e_iconst 3 (v := (nI 2)) dX7_partsFit_2 rfl (by decide) ?_
  refine e_istore_n 4 (ls' := [some (.ref b), some (.ref b2), some (.int (nI 2)), some (.int (nI 2)), none]) dX7_partsFit_3 rfl (by decide) rfl ?_
  exact l_X7_partsFit hq ha h7 hl9 (T + 1) T 0 2 h (by omega) (by omega) (by omega) rfl hL
def teF (a : List Nat) : Nat → Nat → Option Nat
  | 0, k => some k
  | t + 1, k => if k + 2 ≤ a.length then teF a t (k + (2 + a.getD (k + 1) 0)) else none
set_option maxRecDepth 20000 in
set_option maxHeartbeats 2000000 in
theorem l_X7_textsEnd {b2 cb2 : Nat} {a : List Nat} (ha : ∀ x ∈ a, x < 256) (hl9 : a.length ≤ 70000) : ∀ (n : Nat) (t j k : Nat) (h : eH), t < n → j + t = a.getD 6 0 → k ≤ a.length + 300 → teF a t k = teF a (a.getD 6 0) 7 → stars [row b2 cb2 a] h → EE mX7_textsEnd 1 24 0 0 (fun r h' => ∃ L', (r = some (.int (oI (teF a (a.getD 6 0) 7))) ∧ L' = [row b2 cb2 a]) ∧ stars L' h') 5 [some (.ref b2), some (.int (nI k)), some (.int (nI j))] [] h 0 0 := by
  intro n
  induction n with
  | zero => intro t j k h hlt hjt hk he hL; exact absurd hlt (by omega)
  | succ n ih =>
    intro t j k h hlt hjt hk he hL
    have hf1 := gd_lt (i := 6) ha (by decide)
    have hf2 := gd_lt (i := k + 1) ha (by decide)
    refine e_iload_n 6 dX7_textsEnd_5 rfl rfl ?_
    refine e_aload_n 7 dX7_textsEnd_6 rfl rfl ?_
    refine e_bipush 9 (v := (nI 6)) dX7_textsEnd_7 rfl (by decide) ?_
    refine p_callV 12 hL [0] 1 rfl (by decide) (L1 := [row b2 cb2 a]) (L2 := []) rfl row_O 0 rfl dX7_textsEnd_9 rfl cv_X7_15 (k_X4_at (by omega)) rfl rfl (Nat.le_of_ble_eq_true rfl) ⟨by decide, by omega, by omega⟩ (fun r1 L1 h q hL => ?_)
    obtain ⟨rfl, rfl⟩ := q
    have hL : stars [row b2 cb2 a] h := hL
    refine e_icmp_ge 45 15 dX7_textsEnd_12 rfl rfl (fun c12 => ?_) (fun c12 => ?_)
    · have k12 := j_ge_t (a := j) (b := (a.getD 6 0)) (by omega) (by omega) c12
      refine e_iload_n 46 dX7_textsEnd_45 rfl rfl ?_
      exact e_iret dX7_textsEnd_46 rfl (by omega) (by omega) (⟨_, ⟨by rw [← he, show t = 0 by omega]; rfl, rfl⟩, hL⟩)
    · have k12 := j_ge_f (a := j) (b := (a.getD 6 0)) (by omega) (by omega) c12
      refine e_iload_n 16 dX7_textsEnd_15 rfl rfl ?_
      refine e_iconst 17 (v := (nI 2)) dX7_textsEnd_16 rfl (by decide) ?_
      refine e_iadd 18 (v := (nI (k + 2))) dX7_textsEnd_17 rfl (nI_add k 2) ?_
      refine e_aload_n 19 dX7_textsEnd_18 rfl rfl ?_
      obtain ⟨z19, y19⟩ := row_at _ 0 hL rfl
      refine e_get 22 dX7_textsEnd_19 rfl fl_X7_9_4 y19 rfl ?_
      refine e_icmp_le 27 25 dX7_textsEnd_22 rfl rfl (fun c22 => ?_) (fun c22 => ?_)
      · have k22 := j_le_t (a := (k + 2)) (b := a.length) (by omega) (by omega) c22
        refine e_iload_n 28 dX7_textsEnd_27 rfl rfl ?_
        refine e_iconst 29 (v := (nI 2)) dX7_textsEnd_28 rfl (by decide) ?_
        refine e_aload_n 30 dX7_textsEnd_29 rfl rfl ?_
        refine e_iload_n 31 dX7_textsEnd_30 rfl rfl ?_
        refine e_iconst 32 (v := (nI 1)) dX7_textsEnd_31 rfl (by decide) ?_
        refine e_iadd 33 (v := (nI (k + 1))) dX7_textsEnd_32 rfl (nI_add k 1) ?_
        refine p_callV 36 hL [0] 1 rfl (by decide) (L1 := [row b2 cb2 a]) (L2 := []) rfl row_O 0 rfl dX7_textsEnd_33 rfl cv_X7_15 (k_X4_at (by omega)) rfl rfl (Nat.le_of_ble_eq_true rfl) ⟨by decide, by omega, by omega⟩ (fun r1 L1 h q hL => ?_)
        obtain ⟨rfl, rfl⟩ := q
        have hL : stars [row b2 cb2 a] h := hL
        refine e_iadd 37 (v := (nI (2 + (a.getD (k + 1) 0)))) dX7_textsEnd_36 rfl (nI_add 2 (a.getD (k + 1) 0)) ?_
        refine e_iadd 38 (v := (nI (k + (2 + (a.getD (k + 1) 0))))) dX7_textsEnd_37 rfl (nI_add k (2 + (a.getD (k + 1) 0))) ?_
        refine e_istore_n 39 (ls' := [some (.ref b2), some (.int (nI (k + (2 + (a.getD (k + 1) 0))))), some (.int (nI j))]) dX7_textsEnd_38 rfl (by decide) rfl ?_
        refine e_iinc 42 (v := (nI (j + 1))) (ls' := [some (.ref b2), some (.int (nI (k + (2 + (a.getD (k + 1) 0))))), some (.int (nI (j + 1)))]) dX7_textsEnd_39 rfl rfl (nI_add j 1) (by decide) rfl ?_
        refine e_goto 5 dX7_textsEnd_42 rfl ?_
        obtain ⟨t, rfl⟩ : ∃ t1, t = t1 + 1 := ⟨t - 1, by omega⟩
        exact ih t (j + 1) (k + (2 + a.getD (k + 1) 0)) h (by omega) (by omega) (by omega) (by rw [← he, teF, if_pos (by omega)]) hL
      · have k22 := j_le_f (a := (k + 2)) (b := a.length) (by omega) (by omega) c22
        refine e_iconst 26 (v := (-1)) dX7_textsEnd_25 rfl (by decide) ?_
        exact e_iret dX7_textsEnd_26 rfl (by omega) (by omega) (⟨_, ⟨by rw [← he, show t = t - 1 + 1 by omega, teF, if_neg (by omega)]; rfl, rfl⟩, hL⟩)
set_option maxRecDepth 20000 in
set_option maxHeartbeats 2000000 in
/-- textsEnd(a) -/
theorem k_X7_textsEnd {b2 cb2 : Nat} {a : List Nat} (ha : ∀ x ∈ a, x < 256) (hl9 : a.length ≤ 70000) : CA mX7_textsEnd [.ref b2] [row b2 cb2 a] (fun r L => r = some (.int (oI (teF a (a.getD 6 0) 7))) ∧ L = [row b2 cb2 a]) 1 24 0 0 := by
  refine CA.mk 2 (ls := [some (.ref b2), none, none]) rfl rfl (Nat.le_of_ble_eq_true rfl) rfl (fun h hL => ?_)
  refine e_bipush 2 (v := (nI 7)) dX7_textsEnd_0 rfl (by decide) ?_
  refine e_istore_n 3 (ls' := [some (.ref b2), some (.int (nI 7)), none]) dX7_textsEnd_2 rfl (by decide) rfl ?_
  refine e_iconst 4 (v := (nI 0)) dX7_textsEnd_3 rfl (by decide) ?_
  refine e_istore_n 5 (ls' := [some (.ref b2), some (.int (nI 7)), some (.int (nI 0))]) dX7_textsEnd_4 rfl (by decide) rfl ?_
  exact l_X7_textsEnd ha hl9 (a.getD 6 0 + 1) (a.getD 6 0) 0 7 h (by omega) (by omega) (by omega) rfl hL
theorem oI_eq {m : Option Nat} {n : Nat} (hn : n < 2 ^ 31) (hm : ∀ z, m = some z → z < 2 ^ 31) (h : oI m = nI n) : m = some n := by
  cases m with
  | none => exact absurd ((show oI none = -1 from rfl).symm.trans h) (fun e => nlt_pos (x := nI n) (n := 0) (by decide) (by rw [Int32.lt_iff_toInt_lt, nI_toInt hn, nI_toInt (by decide)]; omega) (by rw [← e]; decide))
  | some z => rw [j_eq_t (hm z rfl) hn h]
theorem teF_le {a : List Nat} (ha : ∀ x ∈ a, x < 256) : ∀ (t k z : Nat), k ≤ a.length + 300 → teF a t k = some z → z ≤ a.length + 300
  | 0, k, z, hk, h => by cases h; exact hk
  | t + 1, k, z, hk, h => by
    rw [teF] at h
    by_cases e : k + 2 ≤ a.length
    · rw [if_pos e] at h
      have f := gd_lt (i := k + 1) ha (by decide)
      exact teF_le ha t _ z (by omega) h
    · rw [if_neg e] at h; cases h
theorem sh20 {q : List Nat} (h0 : q.getD 0 0 = 20) (h : shF q = 0) : q.length = 2 + 7 * ((q.length - 2) / 7) := by
  have e : cuF (rdP q) = 0 := by
    rw [shF, if_neg (by omega), if_neg (by omega), if_neg (by omega), if_neg (by omega), if_neg (by omega), if_neg (by omega), if_neg (by omega), if_pos h0] at h
    exact h
  have e2 : rdP q = true := by
    cases r : rdP q with
    | true => rfl
    | false => rw [r] at e; cases e
  rw [rdP, decide_eq_true_eq] at e2
  omega
theorem ite3 {c : Prop} [Decidable c] {a b : Nat} (h1 : a ≤ 3) (h2 : b ≤ 3) : (if c then a else b) ≤ 3 := by
  by_cases h : c
  · rw [if_pos h]; exact h1
  · rw [if_neg h]; exact h2
theorem shF_lt (q : List Nat) : shF q < 2 ^ 31 := by
  have h1 : dgF q ≤ 3 := by unfold dgF; (repeat' (first | decide | apply ite3))
  have h2 : txF q ≤ 3 := by unfold txF; (repeat' (first | decide | apply ite3))
  have h3 : ∀ b, cuF b ≤ 3 := fun b => by cases b <;> decide
  have h4 := h3 (rdP q)
  have h5 := h3 (wrP q)
  refine Nat.lt_of_le_of_lt (m := 3) ?_ (by decide)
  unfold shF
  (repeat' (first | assumption | decide | apply ite3))
def fitF (q a : List Nat) : Bool :=
  if a.getD 0 0 ≠ q.getD 0 0 ∨ shF q ≠ 0 then false
  else if q.getD 0 0 = 1 ∨ q.getD 0 0 = 2 then decide (2 ≤ a.length ∧ a.getD 1 0 = a.length - 2 ∧ a.getD 1 0 = (wd q 3 + 7) / 8)
  else if q.getD 0 0 = 3 ∨ q.getD 0 0 = 4 ∨ q.getD 0 0 = 23 then decide (2 ≤ a.length ∧ a.getD 1 0 = a.length - 2 ∧ a.getD 1 0 = 2 * wd q 3)
  else if q.getD 0 0 = 7 then decide (a.length = 2)
  else if q.getD 0 0 = 8 then dfF q a
  else if q.getD 0 0 = 11 then decide (a.length = 5)
  else if q.getD 0 0 = 12 then decide (2 ≤ a.length ∧ a.getD 1 0 = a.length - 2 ∧ 6 ≤ a.getD 1 0 ∧ a.getD 1 0 ≤ 70)
  else if q.getD 0 0 = 15 ∨ q.getD 0 0 = 16 then decide (a.length = 5) && bgn a q 5
  else if q.getD 0 0 = 17 then decide (2 ≤ a.length ∧ a.getD 1 0 = a.length - 2 ∧ 1 ≤ a.getD 1 0)
  else if q.getD 0 0 = 20 then decide (2 ≤ a.length ∧ a.getD 1 0 = a.length - 2) && ptF q a ((q.length - 2) / 7) 0 2
  else if q.getD 0 0 = 24 then decide (5 ≤ a.length ∧ wd a 1 = a.length - 3 ∧ wd a 1 = 2 + 2 * wd a 3 ∧ wd a 3 ≤ 31)
  else if q.getD 0 0 = 43 then decide (7 ≤ a.length) && (bgn a q 3 && decide (teF a (a.getD 6 0) 7 = some a.length))
  else smF q a
set_option maxRecDepth 20000 in
set_option maxHeartbeats 2000000 in
/-- fits(q, a) -/
theorem k_X7_fits {b cb b2 cb2 : Nat} {q a : List Nat} (hq : ∀ x ∈ q, x < 256) (ha : ∀ x ∈ a, x < 256) (h1 : 1 ≤ q.length) : CA mX7_fits [.ref b, .ref b2] [row b cb q, row b2 cb2 a] (fun r L => r = some (.int (bI (fitF q a))) ∧ L = [row b cb q, row b2 cb2 a]) 3 69 0 0 := by
  refine CA.mk 1 (ls := [some (.ref b), some (.ref b2), none]) rfl rfl (Nat.le_of_ble_eq_true rfl) rfl (fun h hL => ?_)
  have hlen := row_len _ 0 hL rfl
  have w1 := wd_lt (k := 1) hq
  have w3 := wd_lt (k := 3) hq
  have w7 := wd_lt (k := 7) hq
  have g0 := gd_lt (i := 0) hq (by decide)
  have g1 := gd_lt (i := 1) hq (by decide)
  have g2 := gd_lt (i := 2) hq (by decide)
  have g5 := gd_lt (i := 5) hq (by decide)
  have g9 := gd_lt (i := 9) hq (by decide)
  have hlena := row_len _ 1 hL rfl
  have v1 := wd_lt (k := 1) ha
  have v3 := wd_lt (k := 3) ha
  have f0 := gd_lt (i := 0) ha (by decide)
  have f1 := gd_lt (i := 1) ha (by decide)
  have f6 := gd_lt (i := 6) ha (by decide)
  have hsh : shF q < 2 ^ 31 := shF_lt q
  refine e_aload_n 1 dX7_fits_0 rfl rfl ?_
  refine e_iconst 2 (v := (nI 0)) dX7_fits_1 rfl (by decide) ?_
  refine p_callV 5 hL [1, 0] 2 rfl (by decide) (L1 := [row b2 cb2 a]) (L2 := [row b cb q]) rfl row_O 1 rfl dX7_fits_2 rfl cv_X7_15 (k_X4_at (by omega)) rfl rfl (Nat.le_of_ble_eq_true rfl) ⟨by decide, by omega, by omega⟩ (fun r1 L1 h q hL => ?_)
  obtain ⟨rfl, rfl⟩ := q
  have hL : stars [row b2 cb2 a, row b cb q] h := hL
  have hL : stars [row b cb q, row b2 cb2 a] h := stars_ixn hL 2 rfl [1, 0] (by decide) rfl
  refine e_aload_n 6 dX7_fits_5 rfl rfl ?_
  refine e_iconst 7 (v := (nI 0)) dX7_fits_6 rfl (by decide) ?_
  refine p_callV 10 hL [0, 1] 2 rfl (by decide) (L1 := [row b cb q]) (L2 := [row b2 cb2 a]) rfl row_O 0 rfl dX7_fits_7 rfl cv_X7_15 (k_X4_at (by omega)) rfl rfl (Nat.le_of_ble_eq_true rfl) ⟨by decide, by omega, by omega⟩ (fun r1 L1 h q hL => ?_)
  obtain ⟨rfl, rfl⟩ := q
  have hL : stars [row b cb q, row b2 cb2 a] h := hL
  refine e_icmp_ne 20 13 dX7_fits_10 rfl rfl (fun c10 => ?_) (fun c10 => ?_)
  · have k10 := j_ne_t (a := (a.getD 0 0)) (b := (q.getD 0 0)) (by omega) (by omega) c10
    refine e_iconst 21 (v := (nI 0)) dX7_fits_20 rfl (by decide) ?_
    exact e_zret dX7_fits_21 rfl (Or.inl (by decide)) (by omega) (by omega) (⟨_, ⟨by rw [fitF, if_pos (by omega)]; rfl, rfl⟩, hL⟩)
  · have k10 := j_ne_f (a := (a.getD 0 0)) (b := (q.getD 0 0)) (by omega) (by omega) c10
    refine e_aload_n 14 dX7_fits_13 rfl rfl ?_
    refine p_callS 17 hL [0, 1] 2 rfl (by decide) (L1 := [row b cb q]) (L2 := [row b2 cb2 a]) rfl dX7_fits_14 rfl cs_X7_47 (k_X7_fault hq h1) rfl rfl (Nat.le_of_ble_eq_true rfl) ⟨by decide, by omega, by omega⟩ (fun r1 L1 h q hL => ?_)
    obtain ⟨rfl, rfl⟩ := q
    have hL : stars [row b cb q, row b2 cb2 a] h := hL
    refine e_if_eq 22 20 dX7_fits_17 rfl rfl (fun c17 => ?_) (fun c17 => ?_)
    · have k17 := j_eq0_t (a := (shF q)) (by omega) c17
      refine e_aload_n 23 dX7_fits_22 rfl rfl ?_
      obtain ⟨z23, y23⟩ := row_at _ 1 hL rfl
      refine e_get 26 dX7_fits_23 rfl fl_X7_9_4 y23 rfl ?_
      refine e_iconst 27 (v := (nI 2)) dX7_fits_26 rfl (by decide) ?_
      refine e_icmp_lt 48 30 dX7_fits_27 rfl rfl (fun c27 => ?_) (fun c27 => ?_)
      · have k27 := j_lt_t (a := a.length) (b := 2) (by omega) (by omega) c27
        refine e_iconst 49 (v := (nI 0)) dX7_fits_48 rfl (by decide) ?_
        refine e_istore_n 50 (ls' := [some (.ref b), some (.ref b2), some (.int (nI 0))]) dX7_fits_49 rfl (by decide) rfl ?_
        refine e_aload_n 51 dX7_fits_50 rfl rfl ?_
        refine e_iconst 52 (v := (nI 0)) dX7_fits_51 rfl (by decide) ?_
        refine p_callV 55 hL [0, 1] 2 rfl (by decide) (L1 := [row b cb q]) (L2 := [row b2 cb2 a]) rfl row_O 0 rfl dX7_fits_52 rfl cv_X7_15 (k_X4_at (by omega)) rfl rfl (Nat.le_of_ble_eq_true rfl) ⟨by decide, by omega, by omega⟩ (fun r1 L1 h q hL => ?_)
        obtain ⟨rfl, rfl⟩ := q
        have hL : stars [row b cb q, row b2 cb2 a] h := hL
        rcases (show ((q.getD 0 0) < 1 ∨ 43 < (q.getD 0 0)) ∨ ((q.getD 0 0) = 1 ∨ (q.getD 0 0) = 2) ∨ ((q.getD 0 0) = 3 ∨ (q.getD 0 0) = 4 ∨ (q.getD 0 0) = 23) ∨ ((q.getD 0 0) = 5 ∨ (q.getD 0 0) = 6 ∨ (q.getD 0 0) = 9 ∨ (q.getD 0 0) = 10 ∨ (q.getD 0 0) = 13 ∨ (q.getD 0 0) = 14 ∨ (q.getD 0 0) = 18 ∨ (q.getD 0 0) = 19 ∨ (q.getD 0 0) = 21 ∨ (q.getD 0 0) = 22 ∨ (q.getD 0 0) = 25 ∨ (q.getD 0 0) = 26 ∨ (q.getD 0 0) = 27 ∨ (q.getD 0 0) = 28 ∨ (q.getD 0 0) = 29 ∨ (q.getD 0 0) = 30 ∨ (q.getD 0 0) = 31 ∨ (q.getD 0 0) = 32 ∨ (q.getD 0 0) = 33 ∨ (q.getD 0 0) = 34 ∨ (q.getD 0 0) = 35 ∨ (q.getD 0 0) = 36 ∨ (q.getD 0 0) = 37 ∨ (q.getD 0 0) = 38 ∨ (q.getD 0 0) = 39 ∨ (q.getD 0 0) = 40 ∨ (q.getD 0 0) = 41 ∨ (q.getD 0 0) = 42) ∨ ((q.getD 0 0) = 7) ∨ ((q.getD 0 0) = 8) ∨ ((q.getD 0 0) = 11) ∨ ((q.getD 0 0) = 12) ∨ ((q.getD 0 0) = 15 ∨ (q.getD 0 0) = 16) ∨ ((q.getD 0 0) = 17) ∨ ((q.getD 0 0) = 20) ∨ ((q.getD 0 0) = 24) ∨ ((q.getD 0 0) = 43) by omega) with s55 | s55 | s55 | s55 | s55 | s55 | s55 | s55 | s55 | s55 | s55 | s55 | s55
        · refine e_tableOut 503 dX7_fits_55 (by rw [nI_toInt (by omega)]; omega) rfl ?_
          refine e_aload_n 504 dX7_fits_503 rfl rfl ?_
          refine e_aload_n 505 dX7_fits_504 rfl rfl ?_
          refine p_callS 508 hL [0, 1] 2 rfl (by decide) (L1 := [row b cb q, row b2 cb2 a]) (L2 := []) rfl dX7_fits_505 rfl cs_X7_64 (k_X7_isSame hq ha) rfl rfl (Nat.le_of_ble_eq_true rfl) ⟨by decide, by omega, by omega⟩ (fun r1 L1 h q hL => ?_)
          obtain ⟨rfl, rfl⟩ := q
          have hL : stars [row b cb q, row b2 cb2 a] h := hL
          exact e_zret dX7_fits_508 rfl (bI_01 _) (by omega) (by omega) (⟨_, ⟨by (rw [fitF, if_neg (by omega), if_neg (by omega), if_neg (by omega), if_neg (by omega), if_neg (by omega), if_neg (by omega), if_neg (by omega), if_neg (by omega), if_neg (by omega), if_neg (by omega), if_neg (by omega), if_neg (by omega)]) <;> rfl, rfl⟩, hL⟩)
        · refine e_tableIn 240 (off := 185) dX7_fits_55 (by rw [nI_toInt (by omega)]; omega) (by rw [nI_toInt (by omega)]; omega) (by rcases s55 with s55 | s55 <;> rw [s55] <;> decide) rfl ?_
          refine e_iload_n 241 dX7_fits_240 rfl rfl ?_
          refine e_if_eq 267 244 dX7_fits_241 rfl rfl (fun c241 => ?_) (fun c241 => absurd c241 (by decide))
          refine e_iconst 268 (v := (nI 0)) dX7_fits_267 rfl (by decide) ?_
          exact e_zret dX7_fits_268 rfl (Or.inl (by decide)) (by omega) (by omega) (⟨_, ⟨by (rw [fitF, if_neg (by omega), if_pos (by omega)]) <;> (first | (rw [decide_eq_true (by omega)]; rfl) | (rw [decide_eq_false (by omega)]; rfl)), rfl⟩, hL⟩)
        · refine e_tableIn 269 (off := 214) dX7_fits_55 (by rw [nI_toInt (by omega)]; omega) (by rw [nI_toInt (by omega)]; omega) (by rcases s55 with s55 | s55 | s55 <;> rw [s55] <;> decide) rfl ?_
          refine e_iload_n 270 dX7_fits_269 rfl rfl ?_
          refine e_if_eq 292 273 dX7_fits_270 rfl rfl (fun c270 => ?_) (fun c270 => absurd c270 (by decide))
          refine e_iconst 293 (v := (nI 0)) dX7_fits_292 rfl (by decide) ?_
          exact e_zret dX7_fits_293 rfl (Or.inl (by decide)) (by omega) (by omega) (⟨_, ⟨by (rw [fitF, if_neg (by omega), if_neg (by omega), if_pos (by omega)]) <;> (first | (rw [decide_eq_true (by omega)]; rfl) | (rw [decide_eq_false (by omega)]; rfl)), rfl⟩, hL⟩)
        · refine e_tableIn 503 (off := 448) dX7_fits_55 (by rw [nI_toInt (by omega)]; omega) (by rw [nI_toInt (by omega)]; omega) (by rcases s55 with s55 | s55 | s55 | s55 | s55 | s55 | s55 | s55 | s55 | s55 | s55 | s55 | s55 | s55 | s55 | s55 | s55 | s55 | s55 | s55 | s55 | s55 | s55 | s55 | s55 | s55 | s55 | s55 <;> rw [s55] <;> decide) rfl ?_
          refine e_aload_n 504 dX7_fits_503 rfl rfl ?_
          refine e_aload_n 505 dX7_fits_504 rfl rfl ?_
          refine p_callS 508 hL [0, 1] 2 rfl (by decide) (L1 := [row b cb q, row b2 cb2 a]) (L2 := []) rfl dX7_fits_505 rfl cs_X7_64 (k_X7_isSame hq ha) rfl rfl (Nat.le_of_ble_eq_true rfl) ⟨by decide, by omega, by omega⟩ (fun r1 L1 h q hL => ?_)
          obtain ⟨rfl, rfl⟩ := q
          have hL : stars [row b cb q, row b2 cb2 a] h := hL
          exact e_zret dX7_fits_508 rfl (bI_01 _) (by omega) (by omega) (⟨_, ⟨by (rw [fitF, if_neg (by omega), if_neg (by omega), if_neg (by omega), if_neg (by omega), if_neg (by omega), if_neg (by omega), if_neg (by omega), if_neg (by omega), if_neg (by omega), if_neg (by omega), if_neg (by omega), if_neg (by omega)]) <;> rfl, rfl⟩, hL⟩)
        · refine e_tableIn 294 (off := 239) dX7_fits_55 (by rw [nI_toInt (by omega)]; omega) (by rw [nI_toInt (by omega)]; omega) (by rw [s55]; decide) rfl ?_
          refine e_aload_n 295 dX7_fits_294 rfl rfl ?_
          obtain ⟨z295, y295⟩ := row_at _ 1 hL rfl
          refine e_get 298 dX7_fits_295 rfl fl_X7_9_4 y295 rfl ?_
          refine e_iconst 299 (v := (nI 2)) dX7_fits_298 rfl (by decide) ?_
          refine e_icmp_ne 306 302 dX7_fits_299 rfl rfl (fun c299 => ?_) (fun c299 => ?_)
          · have k299 := j_ne_t (a := a.length) (b := 2) (by omega) (by omega) c299
            refine e_iconst 307 (v := (nI 0)) dX7_fits_306 rfl (by decide) ?_
            exact e_zret dX7_fits_307 rfl (Or.inl (by decide)) (by omega) (by omega) (⟨_, ⟨by (rw [fitF, if_neg (by omega), if_neg (by omega), if_neg (by omega), if_pos (by omega)]) <;> (first | (rw [decide_eq_true (by omega)]; rfl) | (rw [decide_eq_false (by omega)]; rfl)), rfl⟩, hL⟩)
          · have k299 := j_ne_f (a := a.length) (b := 2) (by omega) (by omega) c299
            refine e_iconst 303 (v := (nI 1)) dX7_fits_302 rfl (by decide) ?_
            refine e_goto 307 dX7_fits_303 rfl ?_
            exact e_zret dX7_fits_307 rfl (Or.inr (by decide)) (by omega) (by omega) (⟨_, ⟨by (rw [fitF, if_neg (by omega), if_neg (by omega), if_neg (by omega), if_pos (by omega)]) <;> (first | (rw [decide_eq_true (by omega)]; rfl) | (rw [decide_eq_false (by omega)]; rfl)), rfl⟩, hL⟩)
        · refine e_tableIn 308 (off := 253) dX7_fits_55 (by rw [nI_toInt (by omega)]; omega) (by rw [nI_toInt (by omega)]; omega) (by rw [s55]; decide) rfl ?_
          refine e_aload_n 309 dX7_fits_308 rfl rfl ?_
          refine e_aload_n 310 dX7_fits_309 rfl rfl ?_
          refine p_callS 313 hL [0, 1] 2 rfl (by decide) (L1 := [row b cb q, row b2 cb2 a]) (L2 := []) rfl dX7_fits_310 rfl cs_X7_50 (k_X7_diagnosisFits hq ha) rfl rfl (Nat.le_of_ble_eq_true rfl) ⟨by decide, by omega, by omega⟩ (fun r1 L1 h q hL => ?_)
          obtain ⟨rfl, rfl⟩ := q
          have hL : stars [row b cb q, row b2 cb2 a] h := hL
          exact e_zret dX7_fits_313 rfl (bI_01 _) (by omega) (by omega) (⟨_, ⟨by (rw [fitF, if_neg (by omega), if_neg (by omega), if_neg (by omega), if_neg (by omega), if_pos (by omega)]) <;> rfl, rfl⟩, hL⟩)
        · refine e_tableIn 314 (off := 259) dX7_fits_55 (by rw [nI_toInt (by omega)]; omega) (by rw [nI_toInt (by omega)]; omega) (by rw [s55]; decide) rfl ?_
          refine e_aload_n 315 dX7_fits_314 rfl rfl ?_
          obtain ⟨z315, y315⟩ := row_at _ 1 hL rfl
          refine e_get 318 dX7_fits_315 rfl fl_X7_9_4 y315 rfl ?_
          refine e_iconst 319 (v := (nI 5)) dX7_fits_318 rfl (by decide) ?_
          refine e_icmp_ne 326 322 dX7_fits_319 rfl rfl (fun c319 => ?_) (fun c319 => ?_)
          · have k319 := j_ne_t (a := a.length) (b := 5) (by omega) (by omega) c319
            refine e_iconst 327 (v := (nI 0)) dX7_fits_326 rfl (by decide) ?_
            exact e_zret dX7_fits_327 rfl (Or.inl (by decide)) (by omega) (by omega) (⟨_, ⟨by (rw [fitF, if_neg (by omega), if_neg (by omega), if_neg (by omega), if_neg (by omega), if_neg (by omega), if_pos (by omega)]) <;> (first | (rw [decide_eq_true (by omega)]; rfl) | (rw [decide_eq_false (by omega)]; rfl)), rfl⟩, hL⟩)
          · have k319 := j_ne_f (a := a.length) (b := 5) (by omega) (by omega) c319
            refine e_iconst 323 (v := (nI 1)) dX7_fits_322 rfl (by decide) ?_
            refine e_goto 327 dX7_fits_323 rfl ?_
            exact e_zret dX7_fits_327 rfl (Or.inr (by decide)) (by omega) (by omega) (⟨_, ⟨by (rw [fitF, if_neg (by omega), if_neg (by omega), if_neg (by omega), if_neg (by omega), if_neg (by omega), if_pos (by omega)]) <;> (first | (rw [decide_eq_true (by omega)]; rfl) | (rw [decide_eq_false (by omega)]; rfl)), rfl⟩, hL⟩)
        · refine e_tableIn 328 (off := 273) dX7_fits_55 (by rw [nI_toInt (by omega)]; omega) (by rw [nI_toInt (by omega)]; omega) (by rw [s55]; decide) rfl ?_
          refine e_iload_n 329 dX7_fits_328 rfl rfl ?_
          refine e_if_eq 351 332 dX7_fits_329 rfl rfl (fun c329 => ?_) (fun c329 => absurd c329 (by decide))
          refine e_iconst 352 (v := (nI 0)) dX7_fits_351 rfl (by decide) ?_
          exact e_zret dX7_fits_352 rfl (Or.inl (by decide)) (by omega) (by omega) (⟨_, ⟨by (rw [fitF, if_neg (by omega), if_neg (by omega), if_neg (by omega), if_neg (by omega), if_neg (by omega), if_neg (by omega), if_pos (by omega)]) <;> (first | (rw [decide_eq_true (by omega)]; rfl) | (rw [decide_eq_false (by omega)]; rfl)), rfl⟩, hL⟩)
        · refine e_tableIn 353 (off := 298) dX7_fits_55 (by rw [nI_toInt (by omega)]; omega) (by rw [nI_toInt (by omega)]; omega) (by rcases s55 with s55 | s55 <;> rw [s55] <;> decide) rfl ?_
          refine e_aload_n 354 dX7_fits_353 rfl rfl ?_
          obtain ⟨z354, y354⟩ := row_at _ 1 hL rfl
          refine e_get 357 dX7_fits_354 rfl fl_X7_9_4 y354 rfl ?_
          refine e_iconst 358 (v := (nI 5)) dX7_fits_357 rfl (by decide) ?_
          refine e_icmp_ne 374 361 dX7_fits_358 rfl rfl (fun c358 => ?_) (fun c358 => ?_)
          · have k358 := j_ne_t (a := a.length) (b := 5) (by omega) (by omega) c358
            refine e_iconst 375 (v := (nI 0)) dX7_fits_374 rfl (by decide) ?_
            exact e_zret dX7_fits_375 rfl (Or.inl (by decide)) (by omega) (by omega) (⟨_, ⟨by (rw [fitF, if_neg (by omega), if_neg (by omega), if_neg (by omega), if_neg (by omega), if_neg (by omega), if_neg (by omega), if_neg (by omega), if_pos (by omega)]) <;> (first | (rw [k367, decide_eq_true (by omega)]; rfl) | (rw [k367, Bool.and_false]; rfl) | (rw [decide_eq_false (by omega)]; rfl)), rfl⟩, hL⟩)
          · have k358 := j_ne_f (a := a.length) (b := 5) (by omega) (by omega) c358
            refine e_aload_n 362 dX7_fits_361 rfl rfl ?_
            refine e_aload_n 363 dX7_fits_362 rfl rfl ?_
            refine e_iconst 364 (v := (nI 5)) dX7_fits_363 rfl (by decide) ?_
            refine p_callV 367 hL [1, 0] 2 rfl (by decide) (L1 := [row b2 cb2 a, row b cb q]) (L2 := []) rfl row_O 1 rfl dX7_fits_364 rfl cv_X7_54 (k_X4_beginsAs (by omega) (b16 ha) (b16 hq)) rfl rfl (Nat.le_of_ble_eq_true rfl) ⟨by decide, by omega, by omega⟩ (fun r1 L1 h q hL => ?_)
            obtain ⟨rfl, rfl⟩ := q
            have hL : stars [row b2 cb2 a, row b cb q] h := hL
            have hL : stars [row b cb q, row b2 cb2 a] h := stars_ixn hL 2 rfl [1, 0] (by decide) rfl
            refine e_if_eq 374 370 dX7_fits_367 rfl rfl (fun c367 => ?_) (fun c367 => ?_)
            · have k367 := jb_eq_t c367
              refine e_iconst 375 (v := (nI 0)) dX7_fits_374 rfl (by decide) ?_
              exact e_zret dX7_fits_375 rfl (Or.inl (by decide)) (by omega) (by omega) (⟨_, ⟨by (rw [fitF, if_neg (by omega), if_neg (by omega), if_neg (by omega), if_neg (by omega), if_neg (by omega), if_neg (by omega), if_neg (by omega), if_pos (by omega)]) <;> (first | (rw [k367, decide_eq_true (by omega)]; rfl) | (rw [k367, Bool.and_false]; rfl) | (rw [decide_eq_false (by omega)]; rfl)), rfl⟩, hL⟩)
            · have k367 := jb_eq_f c367
              refine e_iconst 371 (v := (nI 1)) dX7_fits_370 rfl (by decide) ?_
              refine e_goto 375 dX7_fits_371 rfl ?_
              exact e_zret dX7_fits_375 rfl (Or.inr (by decide)) (by omega) (by omega) (⟨_, ⟨by (rw [fitF, if_neg (by omega), if_neg (by omega), if_neg (by omega), if_neg (by omega), if_neg (by omega), if_neg (by omega), if_neg (by omega), if_pos (by omega)]) <;> (first | (rw [k367, decide_eq_true (by omega)]; rfl) | (rw [k367, Bool.and_false]; rfl) | (rw [decide_eq_false (by omega)]; rfl)), rfl⟩, hL⟩)
        · refine e_tableIn 376 (off := 321) dX7_fits_55 (by rw [nI_toInt (by omega)]; omega) (by rw [nI_toInt (by omega)]; omega) (by rw [s55]; decide) rfl ?_
          refine e_iload_n 377 dX7_fits_376 rfl rfl ?_
          refine e_if_eq 393 380 dX7_fits_377 rfl rfl (fun c377 => ?_) (fun c377 => absurd c377 (by decide))
          refine e_iconst 394 (v := (nI 0)) dX7_fits_393 rfl (by decide) ?_
          exact e_zret dX7_fits_394 rfl (Or.inl (by decide)) (by omega) (by omega) (⟨_, ⟨by (rw [fitF, if_neg (by omega), if_neg (by omega), if_neg (by omega), if_neg (by omega), if_neg (by omega), if_neg (by omega), if_neg (by omega), if_neg (by omega), if_pos (by omega)]) <;> (first | (rw [decide_eq_true (by omega)]; rfl) | (rw [decide_eq_false (by omega)]; rfl)), rfl⟩, hL⟩)
        · refine e_tableIn 395 (off := 340) dX7_fits_55 (by rw [nI_toInt (by omega)]; omega) (by rw [nI_toInt (by omega)]; omega) (by rw [s55]; decide) rfl ?_
          refine e_iload_n 396 dX7_fits_395 rfl rfl ?_
          refine e_if_eq 411 399 dX7_fits_396 rfl rfl (fun c396 => ?_) (fun c396 => absurd c396 (by decide))
          refine e_iconst 412 (v := (nI 0)) dX7_fits_411 rfl (by decide) ?_
          exact e_zret dX7_fits_412 rfl (Or.inl (by decide)) (by omega) (by omega) (⟨_, ⟨by (rw [fitF, if_neg (by omega), if_neg (by omega), if_neg (by omega), if_neg (by omega), if_neg (by omega), if_neg (by omega), if_neg (by omega), if_neg (by omega), if_neg (by omega), if_pos (by omega)]) <;> (first | (rw [k404, decide_eq_true (by omega)]; rfl) | (rw [k404, Bool.and_false]; rfl) | (rw [decide_eq_false (by omega)]; rfl)), rfl⟩, hL⟩)
        · refine e_tableIn 413 (off := 358) dX7_fits_55 (by rw [nI_toInt (by omega)]; omega) (by rw [nI_toInt (by omega)]; omega) (by rw [s55]; decide) rfl ?_
          refine e_aload_n 414 dX7_fits_413 rfl rfl ?_
          obtain ⟨z414, y414⟩ := row_at _ 1 hL rfl
          refine e_get 417 dX7_fits_414 rfl fl_X7_9_4 y414 rfl ?_
          refine e_iconst 418 (v := (nI 5)) dX7_fits_417 rfl (by decide) ?_
          refine e_icmp_lt 466 421 dX7_fits_418 rfl rfl (fun c418 => ?_) (fun c418 => ?_)
          · have k418 := j_lt_t (a := a.length) (b := 5) (by omega) (by omega) c418
            refine e_iconst 467 (v := (nI 0)) dX7_fits_466 rfl (by decide) ?_
            exact e_zret dX7_fits_467 rfl (Or.inl (by decide)) (by omega) (by omega) (⟨_, ⟨by (rw [fitF, if_neg (by omega), if_neg (by omega), if_neg (by omega), if_neg (by omega), if_neg (by omega), if_neg (by omega), if_neg (by omega), if_neg (by omega), if_neg (by omega), if_neg (by omega), if_pos (by omega)]) <;> (first | (rw [decide_eq_true (by omega)]; rfl) | (rw [decide_eq_false (by omega)]; rfl)), rfl⟩, hL⟩)
          · have k418 := j_lt_f (a := a.length) (b := 5) (by omega) (by omega) c418
            refine e_aload_n 422 dX7_fits_421 rfl rfl ?_
            refine e_iconst 423 (v := (nI 1)) dX7_fits_422 rfl (by decide) ?_
            refine p_callV 426 hL [1, 0] 2 rfl (by decide) (L1 := [row b2 cb2 a]) (L2 := [row b cb q]) rfl row_O 1 rfl dX7_fits_423 rfl cv_X7_19 (k_X4_word (by omega)) rfl rfl (Nat.le_of_ble_eq_true rfl) ⟨by decide, by omega, by omega⟩ (fun r1 L1 h q hL => ?_)
            obtain ⟨rfl, rfl⟩ := q
            have hL : stars [row b2 cb2 a, row b cb q] h := hL
            have hL : stars [row b cb q, row b2 cb2 a] h := stars_ixn hL 2 rfl [1, 0] (by decide) rfl
            refine e_aload_n 427 dX7_fits_426 rfl rfl ?_
            obtain ⟨z427, y427⟩ := row_at _ 1 hL rfl
            refine e_get 430 dX7_fits_427 rfl fl_X7_9_4 y427 rfl ?_
            refine e_iconst 431 (v := (nI 3)) dX7_fits_430 rfl (by decide) ?_
            refine e_isub 432 (v := (nI (a.length - 3))) dX7_fits_431 rfl (pk_sub (by omega)) ?_
            refine e_icmp_ne 466 435 dX7_fits_432 rfl rfl (fun c432 => ?_) (fun c432 => ?_)
            · have k432 := j_ne_t (a := (wd a 1)) (b := (a.length - 3)) (by omega) (by omega) c432
              refine e_iconst 467 (v := (nI 0)) dX7_fits_466 rfl (by decide) ?_
              exact e_zret dX7_fits_467 rfl (Or.inl (by decide)) (by omega) (by omega) (⟨_, ⟨by (rw [fitF, if_neg (by omega), if_neg (by omega), if_neg (by omega), if_neg (by omega), if_neg (by omega), if_neg (by omega), if_neg (by omega), if_neg (by omega), if_neg (by omega), if_neg (by omega), if_pos (by omega)]) <;> (first | (rw [decide_eq_true (by omega)]; rfl) | (rw [decide_eq_false (by omega)]; rfl)), rfl⟩, hL⟩)
            · have k432 := j_ne_f (a := (wd a 1)) (b := (a.length - 3)) (by omega) (by omega) c432
              refine e_aload_n 436 dX7_fits_435 rfl rfl ?_
              refine e_iconst 437 (v := (nI 1)) dX7_fits_436 rfl (by decide) ?_
              refine p_callV 440 hL [1, 0] 2 rfl (by decide) (L1 := [row b2 cb2 a]) (L2 := [row b cb q]) rfl row_O 1 rfl dX7_fits_437 rfl cv_X7_19 (k_X4_word (by omega)) rfl rfl (Nat.le_of_ble_eq_true rfl) ⟨by decide, by omega, by omega⟩ (fun r1 L1 h q hL => ?_)
              obtain ⟨rfl, rfl⟩ := q
              have hL : stars [row b2 cb2 a, row b cb q] h := hL
              have hL : stars [row b cb q, row b2 cb2 a] h := stars_ixn hL 2 rfl [1, 0] (by decide) rfl
              refine e_iconst 441 (v := (nI 2)) dX7_fits_440 rfl (by decide) ?_
              refine e_iconst 442 (v := (nI 2)) dX7_fits_441 rfl (by decide) ?_
              refine e_aload_n 443 dX7_fits_442 rfl rfl ?_
              refine e_iconst 444 (v := (nI 3)) dX7_fits_443 rfl (by decide) ?_
              refine p_callV 447 hL [1, 0] 2 rfl (by decide) (L1 := [row b2 cb2 a]) (L2 := [row b cb q]) rfl row_O 1 rfl dX7_fits_444 rfl cv_X7_19 (k_X4_word (by omega)) rfl rfl (Nat.le_of_ble_eq_true rfl) ⟨by decide, by omega, by omega⟩ (fun r1 L1 h q hL => ?_)
              obtain ⟨rfl, rfl⟩ := q
              have hL : stars [row b2 cb2 a, row b cb q] h := hL
              have hL : stars [row b cb q, row b2 cb2 a] h := stars_ixn hL 2 rfl [1, 0] (by decide) rfl
              refine e_imul 448 (v := (nI (2 * (wd a 3)))) dX7_fits_447 rfl (pk_mul 2 (wd a 3)) ?_
              refine e_iadd 449 (v := (nI (2 + (2 * (wd a 3))))) dX7_fits_448 rfl (nI_add 2 (2 * (wd a 3))) ?_
              refine e_icmp_ne 466 452 dX7_fits_449 rfl rfl (fun c449 => ?_) (fun c449 => ?_)
              · have k449 := j_ne_t (a := (wd a 1)) (b := (2 + (2 * (wd a 3)))) (by omega) (by omega) c449
                refine e_iconst 467 (v := (nI 0)) dX7_fits_466 rfl (by decide) ?_
                exact e_zret dX7_fits_467 rfl (Or.inl (by decide)) (by omega) (by omega) (⟨_, ⟨by (rw [fitF, if_neg (by omega), if_neg (by omega), if_neg (by omega), if_neg (by omega), if_neg (by omega), if_neg (by omega), if_neg (by omega), if_neg (by omega), if_neg (by omega), if_neg (by omega), if_pos (by omega)]) <;> (first | (rw [decide_eq_true (by omega)]; rfl) | (rw [decide_eq_false (by omega)]; rfl)), rfl⟩, hL⟩)
              · have k449 := j_ne_f (a := (wd a 1)) (b := (2 + (2 * (wd a 3)))) (by omega) (by omega) c449
                refine e_aload_n 453 dX7_fits_452 rfl rfl ?_
                refine e_iconst 454 (v := (nI 3)) dX7_fits_453 rfl (by decide) ?_
                refine p_callV 457 hL [1, 0] 2 rfl (by decide) (L1 := [row b2 cb2 a]) (L2 := [row b cb q]) rfl row_O 1 rfl dX7_fits_454 rfl cv_X7_19 (k_X4_word (by omega)) rfl rfl (Nat.le_of_ble_eq_true rfl) ⟨by decide, by omega, by omega⟩ (fun r1 L1 h q hL => ?_)
                obtain ⟨rfl, rfl⟩ := q
                have hL : stars [row b2 cb2 a, row b cb q] h := hL
                have hL : stars [row b cb q, row b2 cb2 a] h := stars_ixn hL 2 rfl [1, 0] (by decide) rfl
                refine e_bipush 459 (v := (nI 31)) dX7_fits_457 rfl (by decide) ?_
                refine e_icmp_gt 466 462 dX7_fits_459 rfl rfl (fun c459 => ?_) (fun c459 => ?_)
                · have k459 := j_gt_t (a := (wd a 3)) (b := 31) (by omega) (by omega) c459
                  refine e_iconst 467 (v := (nI 0)) dX7_fits_466 rfl (by decide) ?_
                  exact e_zret dX7_fits_467 rfl (Or.inl (by decide)) (by omega) (by omega) (⟨_, ⟨by (rw [fitF, if_neg (by omega), if_neg (by omega), if_neg (by omega), if_neg (by omega), if_neg (by omega), if_neg (by omega), if_neg (by omega), if_neg (by omega), if_neg (by omega), if_neg (by omega), if_pos (by omega)]) <;> (first | (rw [decide_eq_true (by omega)]; rfl) | (rw [decide_eq_false (by omega)]; rfl)), rfl⟩, hL⟩)
                · have k459 := j_gt_f (a := (wd a 3)) (b := 31) (by omega) (by omega) c459
                  refine e_iconst 463 (v := (nI 1)) dX7_fits_462 rfl (by decide) ?_
                  refine e_goto 467 dX7_fits_463 rfl ?_
                  exact e_zret dX7_fits_467 rfl (Or.inr (by decide)) (by omega) (by omega) (⟨_, ⟨by (rw [fitF, if_neg (by omega), if_neg (by omega), if_neg (by omega), if_neg (by omega), if_neg (by omega), if_neg (by omega), if_neg (by omega), if_neg (by omega), if_neg (by omega), if_neg (by omega), if_pos (by omega)]) <;> (first | (rw [decide_eq_true (by omega)]; rfl) | (rw [decide_eq_false (by omega)]; rfl)), rfl⟩, hL⟩)
        · refine e_tableIn 468 (off := 413) dX7_fits_55 (by rw [nI_toInt (by omega)]; omega) (by rw [nI_toInt (by omega)]; omega) (by rw [s55]; decide) rfl ?_
          refine e_aload_n 469 dX7_fits_468 rfl rfl ?_
          obtain ⟨z469, y469⟩ := row_at _ 1 hL rfl
          refine e_get 472 dX7_fits_469 rfl fl_X7_9_4 y469 rfl ?_
          refine e_bipush 474 (v := (nI 7)) dX7_fits_472 rfl (by decide) ?_
          refine e_icmp_lt 501 477 dX7_fits_474 rfl rfl (fun c474 => ?_) (fun c474 => ?_)
          · have k474 := j_lt_t (a := a.length) (b := 7) (by omega) (by omega) c474
            refine e_iconst 502 (v := (nI 0)) dX7_fits_501 rfl (by decide) ?_
            exact e_zret dX7_fits_502 rfl (Or.inl (by decide)) (by omega) (by omega) (⟨_, ⟨by (rw [fitF, if_neg (by omega), if_neg (by omega), if_neg (by omega), if_neg (by omega), if_neg (by omega), if_neg (by omega), if_neg (by omega), if_neg (by omega), if_neg (by omega), if_neg (by omega), if_neg (by omega), if_pos (by omega)]) <;> (first | (rw [k483, decide_eq_true k494, decide_eq_true (by omega)]; rfl) | (rw [decide_eq_false k494, Bool.and_false, Bool.and_false]; rfl) | (rw [k483, Bool.false_and, Bool.and_false]; rfl) | (rw [decide_eq_false (by omega)]; rfl)), rfl⟩, hL⟩)
          · have k474 := j_lt_f (a := a.length) (b := 7) (by omega) (by omega) c474
            refine e_aload_n 478 dX7_fits_477 rfl rfl ?_
            refine e_aload_n 479 dX7_fits_478 rfl rfl ?_
            refine e_iconst 480 (v := (nI 3)) dX7_fits_479 rfl (by decide) ?_
            refine p_callV 483 hL [1, 0] 2 rfl (by decide) (L1 := [row b2 cb2 a, row b cb q]) (L2 := []) rfl row_O 1 rfl dX7_fits_480 rfl cv_X7_54 (k_X4_beginsAs (by omega) (b16 ha) (b16 hq)) rfl rfl (Nat.le_of_ble_eq_true rfl) ⟨by decide, by omega, by omega⟩ (fun r1 L1 h q hL => ?_)
            obtain ⟨rfl, rfl⟩ := q
            have hL : stars [row b2 cb2 a, row b cb q] h := hL
            have hL : stars [row b cb q, row b2 cb2 a] h := stars_ixn hL 2 rfl [1, 0] (by decide) rfl
            refine e_if_eq 501 486 dX7_fits_483 rfl rfl (fun c483 => ?_) (fun c483 => ?_)
            · have k483 := jb_eq_t c483
              refine e_iconst 502 (v := (nI 0)) dX7_fits_501 rfl (by decide) ?_
              exact e_zret dX7_fits_502 rfl (Or.inl (by decide)) (by omega) (by omega) (⟨_, ⟨by (rw [fitF, if_neg (by omega), if_neg (by omega), if_neg (by omega), if_neg (by omega), if_neg (by omega), if_neg (by omega), if_neg (by omega), if_neg (by omega), if_neg (by omega), if_neg (by omega), if_neg (by omega), if_pos (by omega)]) <;> (first | (rw [k483, decide_eq_true k494, decide_eq_true (by omega)]; rfl) | (rw [decide_eq_false k494, Bool.and_false, Bool.and_false]; rfl) | (rw [k483, Bool.false_and, Bool.and_false]; rfl) | (rw [decide_eq_false (by omega)]; rfl)), rfl⟩, hL⟩)
            · have k483 := jb_eq_f c483
              refine e_aload_n 487 dX7_fits_486 rfl rfl ?_
              refine p_callS 490 hL [1, 0] 2 rfl (by decide) (L1 := [row b2 cb2 a]) (L2 := [row b cb q]) rfl dX7_fits_487 rfl cs_X7_61 (k_X7_textsEnd ha (by omega)) rfl rfl (Nat.le_of_ble_eq_true rfl) ⟨by decide, by omega, by omega⟩ (fun r1 L1 h q hL => ?_)
              obtain ⟨rfl, rfl⟩ := q
              have hL : stars [row b2 cb2 a, row b cb q] h := hL
              have hL : stars [row b cb q, row b2 cb2 a] h := stars_ixn hL 2 rfl [1, 0] (by decide) rfl
              refine e_aload_n 491 dX7_fits_490 rfl rfl ?_
              obtain ⟨z491, y491⟩ := row_at _ 1 hL rfl
              refine e_get 494 dX7_fits_491 rfl fl_X7_9_4 y491 rfl ?_
              refine e_icmp_ne 501 497 dX7_fits_494 rfl rfl (fun c494 => ?_) (fun c494 => ?_)
              · have k494 : ¬ teF a (a.getD 6 0) 7 = some a.length := fun e => c494 (by rw [e]; rfl)
                refine e_iconst 502 (v := (nI 0)) dX7_fits_501 rfl (by decide) ?_
                exact e_zret dX7_fits_502 rfl (Or.inl (by decide)) (by omega) (by omega) (⟨_, ⟨by (rw [fitF, if_neg (by omega), if_neg (by omega), if_neg (by omega), if_neg (by omega), if_neg (by omega), if_neg (by omega), if_neg (by omega), if_neg (by omega), if_neg (by omega), if_neg (by omega), if_neg (by omega), if_pos (by omega)]) <;> (first | (rw [k483, decide_eq_true k494, decide_eq_true (by omega)]; rfl) | (rw [decide_eq_false k494, Bool.and_false, Bool.and_false]; rfl) | (rw [k483, Bool.false_and, Bool.and_false]; rfl) | (rw [decide_eq_false (by omega)]; rfl)), rfl⟩, hL⟩)
              · have k494 : teF a (a.getD 6 0) 7 = some a.length := oI_eq (by omega) (fun z hz => by have := teF_le ha _ _ _ (by omega) hz; omega) c494
                refine e_iconst 498 (v := (nI 1)) dX7_fits_497 rfl (by decide) ?_
                refine e_goto 502 dX7_fits_498 rfl ?_
                exact e_zret dX7_fits_502 rfl (Or.inr (by decide)) (by omega) (by omega) (⟨_, ⟨by (rw [fitF, if_neg (by omega), if_neg (by omega), if_neg (by omega), if_neg (by omega), if_neg (by omega), if_neg (by omega), if_neg (by omega), if_neg (by omega), if_neg (by omega), if_neg (by omega), if_neg (by omega), if_pos (by omega)]) <;> (first | (rw [k483, decide_eq_true k494, decide_eq_true (by omega)]; rfl) | (rw [decide_eq_false k494, Bool.and_false, Bool.and_false]; rfl) | (rw [k483, Bool.false_and, Bool.and_false]; rfl) | (rw [decide_eq_false (by omega)]; rfl)), rfl⟩, hL⟩)
      · have k27 := j_lt_f (a := a.length) (b := 2) (by omega) (by omega) c27
        refine e_aload_n 31 dX7_fits_30 rfl rfl ?_
        refine e_iconst 32 (v := (nI 1)) dX7_fits_31 rfl (by decide) ?_
        refine p_callV 35 hL [1, 0] 2 rfl (by decide) (L1 := [row b2 cb2 a]) (L2 := [row b cb q]) rfl row_O 1 rfl dX7_fits_32 rfl cv_X7_15 (k_X4_at (by omega)) rfl rfl (Nat.le_of_ble_eq_true rfl) ⟨by decide, by omega, by omega⟩ (fun r1 L1 h q hL => ?_)
        obtain ⟨rfl, rfl⟩ := q
        have hL : stars [row b2 cb2 a, row b cb q] h := hL
        have hL : stars [row b cb q, row b2 cb2 a] h := stars_ixn hL 2 rfl [1, 0] (by decide) rfl
        refine e_aload_n 36 dX7_fits_35 rfl rfl ?_
        obtain ⟨z36, y36⟩ := row_at _ 1 hL rfl
        refine e_get 39 dX7_fits_36 rfl fl_X7_9_4 y36 rfl ?_
        refine e_iconst 40 (v := (nI 2)) dX7_fits_39 rfl (by decide) ?_
        refine e_isub 41 (v := (nI (a.length - 2))) dX7_fits_40 rfl (pk_sub (by omega)) ?_
        refine e_icmp_ne 48 44 dX7_fits_41 rfl rfl (fun c41 => ?_) (fun c41 => ?_)
        · have k41 := j_ne_t (a := (a.getD 1 0)) (b := (a.length - 2)) (by omega) (by omega) c41
          refine e_iconst 49 (v := (nI 0)) dX7_fits_48 rfl (by decide) ?_
          refine e_istore_n 50 (ls' := [some (.ref b), some (.ref b2), some (.int (nI 0))]) dX7_fits_49 rfl (by decide) rfl ?_
          refine e_aload_n 51 dX7_fits_50 rfl rfl ?_
          refine e_iconst 52 (v := (nI 0)) dX7_fits_51 rfl (by decide) ?_
          refine p_callV 55 hL [0, 1] 2 rfl (by decide) (L1 := [row b cb q]) (L2 := [row b2 cb2 a]) rfl row_O 0 rfl dX7_fits_52 rfl cv_X7_15 (k_X4_at (by omega)) rfl rfl (Nat.le_of_ble_eq_true rfl) ⟨by decide, by omega, by omega⟩ (fun r1 L1 h q hL => ?_)
          obtain ⟨rfl, rfl⟩ := q
          have hL : stars [row b cb q, row b2 cb2 a] h := hL
          rcases (show ((q.getD 0 0) < 1 ∨ 43 < (q.getD 0 0)) ∨ ((q.getD 0 0) = 1 ∨ (q.getD 0 0) = 2) ∨ ((q.getD 0 0) = 3 ∨ (q.getD 0 0) = 4 ∨ (q.getD 0 0) = 23) ∨ ((q.getD 0 0) = 5 ∨ (q.getD 0 0) = 6 ∨ (q.getD 0 0) = 9 ∨ (q.getD 0 0) = 10 ∨ (q.getD 0 0) = 13 ∨ (q.getD 0 0) = 14 ∨ (q.getD 0 0) = 18 ∨ (q.getD 0 0) = 19 ∨ (q.getD 0 0) = 21 ∨ (q.getD 0 0) = 22 ∨ (q.getD 0 0) = 25 ∨ (q.getD 0 0) = 26 ∨ (q.getD 0 0) = 27 ∨ (q.getD 0 0) = 28 ∨ (q.getD 0 0) = 29 ∨ (q.getD 0 0) = 30 ∨ (q.getD 0 0) = 31 ∨ (q.getD 0 0) = 32 ∨ (q.getD 0 0) = 33 ∨ (q.getD 0 0) = 34 ∨ (q.getD 0 0) = 35 ∨ (q.getD 0 0) = 36 ∨ (q.getD 0 0) = 37 ∨ (q.getD 0 0) = 38 ∨ (q.getD 0 0) = 39 ∨ (q.getD 0 0) = 40 ∨ (q.getD 0 0) = 41 ∨ (q.getD 0 0) = 42) ∨ ((q.getD 0 0) = 7) ∨ ((q.getD 0 0) = 8) ∨ ((q.getD 0 0) = 11) ∨ ((q.getD 0 0) = 12) ∨ ((q.getD 0 0) = 15 ∨ (q.getD 0 0) = 16) ∨ ((q.getD 0 0) = 17) ∨ ((q.getD 0 0) = 20) ∨ ((q.getD 0 0) = 24) ∨ ((q.getD 0 0) = 43) by omega) with s55 | s55 | s55 | s55 | s55 | s55 | s55 | s55 | s55 | s55 | s55 | s55 | s55
          · refine e_tableOut 503 dX7_fits_55 (by rw [nI_toInt (by omega)]; omega) rfl ?_
            refine e_aload_n 504 dX7_fits_503 rfl rfl ?_
            refine e_aload_n 505 dX7_fits_504 rfl rfl ?_
            refine p_callS 508 hL [0, 1] 2 rfl (by decide) (L1 := [row b cb q, row b2 cb2 a]) (L2 := []) rfl dX7_fits_505 rfl cs_X7_64 (k_X7_isSame hq ha) rfl rfl (Nat.le_of_ble_eq_true rfl) ⟨by decide, by omega, by omega⟩ (fun r1 L1 h q hL => ?_)
            obtain ⟨rfl, rfl⟩ := q
            have hL : stars [row b cb q, row b2 cb2 a] h := hL
            exact e_zret dX7_fits_508 rfl (bI_01 _) (by omega) (by omega) (⟨_, ⟨by (rw [fitF, if_neg (by omega), if_neg (by omega), if_neg (by omega), if_neg (by omega), if_neg (by omega), if_neg (by omega), if_neg (by omega), if_neg (by omega), if_neg (by omega), if_neg (by omega), if_neg (by omega), if_neg (by omega)]) <;> rfl, rfl⟩, hL⟩)
          · refine e_tableIn 240 (off := 185) dX7_fits_55 (by rw [nI_toInt (by omega)]; omega) (by rw [nI_toInt (by omega)]; omega) (by rcases s55 with s55 | s55 <;> rw [s55] <;> decide) rfl ?_
            refine e_iload_n 241 dX7_fits_240 rfl rfl ?_
            refine e_if_eq 267 244 dX7_fits_241 rfl rfl (fun c241 => ?_) (fun c241 => absurd c241 (by decide))
            refine e_iconst 268 (v := (nI 0)) dX7_fits_267 rfl (by decide) ?_
            exact e_zret dX7_fits_268 rfl (Or.inl (by decide)) (by omega) (by omega) (⟨_, ⟨by (rw [fitF, if_neg (by omega), if_pos (by omega)]) <;> (first | (rw [decide_eq_true (by omega)]; rfl) | (rw [decide_eq_false (by omega)]; rfl)), rfl⟩, hL⟩)
          · refine e_tableIn 269 (off := 214) dX7_fits_55 (by rw [nI_toInt (by omega)]; omega) (by rw [nI_toInt (by omega)]; omega) (by rcases s55 with s55 | s55 | s55 <;> rw [s55] <;> decide) rfl ?_
            refine e_iload_n 270 dX7_fits_269 rfl rfl ?_
            refine e_if_eq 292 273 dX7_fits_270 rfl rfl (fun c270 => ?_) (fun c270 => absurd c270 (by decide))
            refine e_iconst 293 (v := (nI 0)) dX7_fits_292 rfl (by decide) ?_
            exact e_zret dX7_fits_293 rfl (Or.inl (by decide)) (by omega) (by omega) (⟨_, ⟨by (rw [fitF, if_neg (by omega), if_neg (by omega), if_pos (by omega)]) <;> (first | (rw [decide_eq_true (by omega)]; rfl) | (rw [decide_eq_false (by omega)]; rfl)), rfl⟩, hL⟩)
          · refine e_tableIn 503 (off := 448) dX7_fits_55 (by rw [nI_toInt (by omega)]; omega) (by rw [nI_toInt (by omega)]; omega) (by rcases s55 with s55 | s55 | s55 | s55 | s55 | s55 | s55 | s55 | s55 | s55 | s55 | s55 | s55 | s55 | s55 | s55 | s55 | s55 | s55 | s55 | s55 | s55 | s55 | s55 | s55 | s55 | s55 | s55 <;> rw [s55] <;> decide) rfl ?_
            refine e_aload_n 504 dX7_fits_503 rfl rfl ?_
            refine e_aload_n 505 dX7_fits_504 rfl rfl ?_
            refine p_callS 508 hL [0, 1] 2 rfl (by decide) (L1 := [row b cb q, row b2 cb2 a]) (L2 := []) rfl dX7_fits_505 rfl cs_X7_64 (k_X7_isSame hq ha) rfl rfl (Nat.le_of_ble_eq_true rfl) ⟨by decide, by omega, by omega⟩ (fun r1 L1 h q hL => ?_)
            obtain ⟨rfl, rfl⟩ := q
            have hL : stars [row b cb q, row b2 cb2 a] h := hL
            exact e_zret dX7_fits_508 rfl (bI_01 _) (by omega) (by omega) (⟨_, ⟨by (rw [fitF, if_neg (by omega), if_neg (by omega), if_neg (by omega), if_neg (by omega), if_neg (by omega), if_neg (by omega), if_neg (by omega), if_neg (by omega), if_neg (by omega), if_neg (by omega), if_neg (by omega), if_neg (by omega)]) <;> rfl, rfl⟩, hL⟩)
          · refine e_tableIn 294 (off := 239) dX7_fits_55 (by rw [nI_toInt (by omega)]; omega) (by rw [nI_toInt (by omega)]; omega) (by rw [s55]; decide) rfl ?_
            refine e_aload_n 295 dX7_fits_294 rfl rfl ?_
            obtain ⟨z295, y295⟩ := row_at _ 1 hL rfl
            refine e_get 298 dX7_fits_295 rfl fl_X7_9_4 y295 rfl ?_
            refine e_iconst 299 (v := (nI 2)) dX7_fits_298 rfl (by decide) ?_
            refine e_icmp_ne 306 302 dX7_fits_299 rfl rfl (fun c299 => ?_) (fun c299 => ?_)
            · have k299 := j_ne_t (a := a.length) (b := 2) (by omega) (by omega) c299
              refine e_iconst 307 (v := (nI 0)) dX7_fits_306 rfl (by decide) ?_
              exact e_zret dX7_fits_307 rfl (Or.inl (by decide)) (by omega) (by omega) (⟨_, ⟨by (rw [fitF, if_neg (by omega), if_neg (by omega), if_neg (by omega), if_pos (by omega)]) <;> (first | (rw [decide_eq_true (by omega)]; rfl) | (rw [decide_eq_false (by omega)]; rfl)), rfl⟩, hL⟩)
            · have k299 := j_ne_f (a := a.length) (b := 2) (by omega) (by omega) c299
              refine e_iconst 303 (v := (nI 1)) dX7_fits_302 rfl (by decide) ?_
              refine e_goto 307 dX7_fits_303 rfl ?_
              exact e_zret dX7_fits_307 rfl (Or.inr (by decide)) (by omega) (by omega) (⟨_, ⟨by (rw [fitF, if_neg (by omega), if_neg (by omega), if_neg (by omega), if_pos (by omega)]) <;> (first | (rw [decide_eq_true (by omega)]; rfl) | (rw [decide_eq_false (by omega)]; rfl)), rfl⟩, hL⟩)
          · refine e_tableIn 308 (off := 253) dX7_fits_55 (by rw [nI_toInt (by omega)]; omega) (by rw [nI_toInt (by omega)]; omega) (by rw [s55]; decide) rfl ?_
            refine e_aload_n 309 dX7_fits_308 rfl rfl ?_
            refine e_aload_n 310 dX7_fits_309 rfl rfl ?_
            refine p_callS 313 hL [0, 1] 2 rfl (by decide) (L1 := [row b cb q, row b2 cb2 a]) (L2 := []) rfl dX7_fits_310 rfl cs_X7_50 (k_X7_diagnosisFits hq ha) rfl rfl (Nat.le_of_ble_eq_true rfl) ⟨by decide, by omega, by omega⟩ (fun r1 L1 h q hL => ?_)
            obtain ⟨rfl, rfl⟩ := q
            have hL : stars [row b cb q, row b2 cb2 a] h := hL
            exact e_zret dX7_fits_313 rfl (bI_01 _) (by omega) (by omega) (⟨_, ⟨by (rw [fitF, if_neg (by omega), if_neg (by omega), if_neg (by omega), if_neg (by omega), if_pos (by omega)]) <;> rfl, rfl⟩, hL⟩)
          · refine e_tableIn 314 (off := 259) dX7_fits_55 (by rw [nI_toInt (by omega)]; omega) (by rw [nI_toInt (by omega)]; omega) (by rw [s55]; decide) rfl ?_
            refine e_aload_n 315 dX7_fits_314 rfl rfl ?_
            obtain ⟨z315, y315⟩ := row_at _ 1 hL rfl
            refine e_get 318 dX7_fits_315 rfl fl_X7_9_4 y315 rfl ?_
            refine e_iconst 319 (v := (nI 5)) dX7_fits_318 rfl (by decide) ?_
            refine e_icmp_ne 326 322 dX7_fits_319 rfl rfl (fun c319 => ?_) (fun c319 => ?_)
            · have k319 := j_ne_t (a := a.length) (b := 5) (by omega) (by omega) c319
              refine e_iconst 327 (v := (nI 0)) dX7_fits_326 rfl (by decide) ?_
              exact e_zret dX7_fits_327 rfl (Or.inl (by decide)) (by omega) (by omega) (⟨_, ⟨by (rw [fitF, if_neg (by omega), if_neg (by omega), if_neg (by omega), if_neg (by omega), if_neg (by omega), if_pos (by omega)]) <;> (first | (rw [decide_eq_true (by omega)]; rfl) | (rw [decide_eq_false (by omega)]; rfl)), rfl⟩, hL⟩)
            · have k319 := j_ne_f (a := a.length) (b := 5) (by omega) (by omega) c319
              refine e_iconst 323 (v := (nI 1)) dX7_fits_322 rfl (by decide) ?_
              refine e_goto 327 dX7_fits_323 rfl ?_
              exact e_zret dX7_fits_327 rfl (Or.inr (by decide)) (by omega) (by omega) (⟨_, ⟨by (rw [fitF, if_neg (by omega), if_neg (by omega), if_neg (by omega), if_neg (by omega), if_neg (by omega), if_pos (by omega)]) <;> (first | (rw [decide_eq_true (by omega)]; rfl) | (rw [decide_eq_false (by omega)]; rfl)), rfl⟩, hL⟩)
          · refine e_tableIn 328 (off := 273) dX7_fits_55 (by rw [nI_toInt (by omega)]; omega) (by rw [nI_toInt (by omega)]; omega) (by rw [s55]; decide) rfl ?_
            refine e_iload_n 329 dX7_fits_328 rfl rfl ?_
            refine e_if_eq 351 332 dX7_fits_329 rfl rfl (fun c329 => ?_) (fun c329 => absurd c329 (by decide))
            refine e_iconst 352 (v := (nI 0)) dX7_fits_351 rfl (by decide) ?_
            exact e_zret dX7_fits_352 rfl (Or.inl (by decide)) (by omega) (by omega) (⟨_, ⟨by (rw [fitF, if_neg (by omega), if_neg (by omega), if_neg (by omega), if_neg (by omega), if_neg (by omega), if_neg (by omega), if_pos (by omega)]) <;> (first | (rw [decide_eq_true (by omega)]; rfl) | (rw [decide_eq_false (by omega)]; rfl)), rfl⟩, hL⟩)
          · refine e_tableIn 353 (off := 298) dX7_fits_55 (by rw [nI_toInt (by omega)]; omega) (by rw [nI_toInt (by omega)]; omega) (by rcases s55 with s55 | s55 <;> rw [s55] <;> decide) rfl ?_
            refine e_aload_n 354 dX7_fits_353 rfl rfl ?_
            obtain ⟨z354, y354⟩ := row_at _ 1 hL rfl
            refine e_get 357 dX7_fits_354 rfl fl_X7_9_4 y354 rfl ?_
            refine e_iconst 358 (v := (nI 5)) dX7_fits_357 rfl (by decide) ?_
            refine e_icmp_ne 374 361 dX7_fits_358 rfl rfl (fun c358 => ?_) (fun c358 => ?_)
            · have k358 := j_ne_t (a := a.length) (b := 5) (by omega) (by omega) c358
              refine e_iconst 375 (v := (nI 0)) dX7_fits_374 rfl (by decide) ?_
              exact e_zret dX7_fits_375 rfl (Or.inl (by decide)) (by omega) (by omega) (⟨_, ⟨by (rw [fitF, if_neg (by omega), if_neg (by omega), if_neg (by omega), if_neg (by omega), if_neg (by omega), if_neg (by omega), if_neg (by omega), if_pos (by omega)]) <;> (first | (rw [k367, decide_eq_true (by omega)]; rfl) | (rw [k367, Bool.and_false]; rfl) | (rw [decide_eq_false (by omega)]; rfl)), rfl⟩, hL⟩)
            · have k358 := j_ne_f (a := a.length) (b := 5) (by omega) (by omega) c358
              refine e_aload_n 362 dX7_fits_361 rfl rfl ?_
              refine e_aload_n 363 dX7_fits_362 rfl rfl ?_
              refine e_iconst 364 (v := (nI 5)) dX7_fits_363 rfl (by decide) ?_
              refine p_callV 367 hL [1, 0] 2 rfl (by decide) (L1 := [row b2 cb2 a, row b cb q]) (L2 := []) rfl row_O 1 rfl dX7_fits_364 rfl cv_X7_54 (k_X4_beginsAs (by omega) (b16 ha) (b16 hq)) rfl rfl (Nat.le_of_ble_eq_true rfl) ⟨by decide, by omega, by omega⟩ (fun r1 L1 h q hL => ?_)
              obtain ⟨rfl, rfl⟩ := q
              have hL : stars [row b2 cb2 a, row b cb q] h := hL
              have hL : stars [row b cb q, row b2 cb2 a] h := stars_ixn hL 2 rfl [1, 0] (by decide) rfl
              refine e_if_eq 374 370 dX7_fits_367 rfl rfl (fun c367 => ?_) (fun c367 => ?_)
              · have k367 := jb_eq_t c367
                refine e_iconst 375 (v := (nI 0)) dX7_fits_374 rfl (by decide) ?_
                exact e_zret dX7_fits_375 rfl (Or.inl (by decide)) (by omega) (by omega) (⟨_, ⟨by (rw [fitF, if_neg (by omega), if_neg (by omega), if_neg (by omega), if_neg (by omega), if_neg (by omega), if_neg (by omega), if_neg (by omega), if_pos (by omega)]) <;> (first | (rw [k367, decide_eq_true (by omega)]; rfl) | (rw [k367, Bool.and_false]; rfl) | (rw [decide_eq_false (by omega)]; rfl)), rfl⟩, hL⟩)
              · have k367 := jb_eq_f c367
                refine e_iconst 371 (v := (nI 1)) dX7_fits_370 rfl (by decide) ?_
                refine e_goto 375 dX7_fits_371 rfl ?_
                exact e_zret dX7_fits_375 rfl (Or.inr (by decide)) (by omega) (by omega) (⟨_, ⟨by (rw [fitF, if_neg (by omega), if_neg (by omega), if_neg (by omega), if_neg (by omega), if_neg (by omega), if_neg (by omega), if_neg (by omega), if_pos (by omega)]) <;> (first | (rw [k367, decide_eq_true (by omega)]; rfl) | (rw [k367, Bool.and_false]; rfl) | (rw [decide_eq_false (by omega)]; rfl)), rfl⟩, hL⟩)
          · refine e_tableIn 376 (off := 321) dX7_fits_55 (by rw [nI_toInt (by omega)]; omega) (by rw [nI_toInt (by omega)]; omega) (by rw [s55]; decide) rfl ?_
            refine e_iload_n 377 dX7_fits_376 rfl rfl ?_
            refine e_if_eq 393 380 dX7_fits_377 rfl rfl (fun c377 => ?_) (fun c377 => absurd c377 (by decide))
            refine e_iconst 394 (v := (nI 0)) dX7_fits_393 rfl (by decide) ?_
            exact e_zret dX7_fits_394 rfl (Or.inl (by decide)) (by omega) (by omega) (⟨_, ⟨by (rw [fitF, if_neg (by omega), if_neg (by omega), if_neg (by omega), if_neg (by omega), if_neg (by omega), if_neg (by omega), if_neg (by omega), if_neg (by omega), if_pos (by omega)]) <;> (first | (rw [decide_eq_true (by omega)]; rfl) | (rw [decide_eq_false (by omega)]; rfl)), rfl⟩, hL⟩)
          · refine e_tableIn 395 (off := 340) dX7_fits_55 (by rw [nI_toInt (by omega)]; omega) (by rw [nI_toInt (by omega)]; omega) (by rw [s55]; decide) rfl ?_
            refine e_iload_n 396 dX7_fits_395 rfl rfl ?_
            refine e_if_eq 411 399 dX7_fits_396 rfl rfl (fun c396 => ?_) (fun c396 => absurd c396 (by decide))
            refine e_iconst 412 (v := (nI 0)) dX7_fits_411 rfl (by decide) ?_
            exact e_zret dX7_fits_412 rfl (Or.inl (by decide)) (by omega) (by omega) (⟨_, ⟨by (rw [fitF, if_neg (by omega), if_neg (by omega), if_neg (by omega), if_neg (by omega), if_neg (by omega), if_neg (by omega), if_neg (by omega), if_neg (by omega), if_neg (by omega), if_pos (by omega)]) <;> (first | (rw [k404, decide_eq_true (by omega)]; rfl) | (rw [k404, Bool.and_false]; rfl) | (rw [decide_eq_false (by omega)]; rfl)), rfl⟩, hL⟩)
          · refine e_tableIn 413 (off := 358) dX7_fits_55 (by rw [nI_toInt (by omega)]; omega) (by rw [nI_toInt (by omega)]; omega) (by rw [s55]; decide) rfl ?_
            refine e_aload_n 414 dX7_fits_413 rfl rfl ?_
            obtain ⟨z414, y414⟩ := row_at _ 1 hL rfl
            refine e_get 417 dX7_fits_414 rfl fl_X7_9_4 y414 rfl ?_
            refine e_iconst 418 (v := (nI 5)) dX7_fits_417 rfl (by decide) ?_
            refine e_icmp_lt 466 421 dX7_fits_418 rfl rfl (fun c418 => ?_) (fun c418 => ?_)
            · have k418 := j_lt_t (a := a.length) (b := 5) (by omega) (by omega) c418
              refine e_iconst 467 (v := (nI 0)) dX7_fits_466 rfl (by decide) ?_
              exact e_zret dX7_fits_467 rfl (Or.inl (by decide)) (by omega) (by omega) (⟨_, ⟨by (rw [fitF, if_neg (by omega), if_neg (by omega), if_neg (by omega), if_neg (by omega), if_neg (by omega), if_neg (by omega), if_neg (by omega), if_neg (by omega), if_neg (by omega), if_neg (by omega), if_pos (by omega)]) <;> (first | (rw [decide_eq_true (by omega)]; rfl) | (rw [decide_eq_false (by omega)]; rfl)), rfl⟩, hL⟩)
            · have k418 := j_lt_f (a := a.length) (b := 5) (by omega) (by omega) c418
              refine e_aload_n 422 dX7_fits_421 rfl rfl ?_
              refine e_iconst 423 (v := (nI 1)) dX7_fits_422 rfl (by decide) ?_
              refine p_callV 426 hL [1, 0] 2 rfl (by decide) (L1 := [row b2 cb2 a]) (L2 := [row b cb q]) rfl row_O 1 rfl dX7_fits_423 rfl cv_X7_19 (k_X4_word (by omega)) rfl rfl (Nat.le_of_ble_eq_true rfl) ⟨by decide, by omega, by omega⟩ (fun r1 L1 h q hL => ?_)
              obtain ⟨rfl, rfl⟩ := q
              have hL : stars [row b2 cb2 a, row b cb q] h := hL
              have hL : stars [row b cb q, row b2 cb2 a] h := stars_ixn hL 2 rfl [1, 0] (by decide) rfl
              refine e_aload_n 427 dX7_fits_426 rfl rfl ?_
              obtain ⟨z427, y427⟩ := row_at _ 1 hL rfl
              refine e_get 430 dX7_fits_427 rfl fl_X7_9_4 y427 rfl ?_
              refine e_iconst 431 (v := (nI 3)) dX7_fits_430 rfl (by decide) ?_
              refine e_isub 432 (v := (nI (a.length - 3))) dX7_fits_431 rfl (pk_sub (by omega)) ?_
              refine e_icmp_ne 466 435 dX7_fits_432 rfl rfl (fun c432 => ?_) (fun c432 => ?_)
              · have k432 := j_ne_t (a := (wd a 1)) (b := (a.length - 3)) (by omega) (by omega) c432
                refine e_iconst 467 (v := (nI 0)) dX7_fits_466 rfl (by decide) ?_
                exact e_zret dX7_fits_467 rfl (Or.inl (by decide)) (by omega) (by omega) (⟨_, ⟨by (rw [fitF, if_neg (by omega), if_neg (by omega), if_neg (by omega), if_neg (by omega), if_neg (by omega), if_neg (by omega), if_neg (by omega), if_neg (by omega), if_neg (by omega), if_neg (by omega), if_pos (by omega)]) <;> (first | (rw [decide_eq_true (by omega)]; rfl) | (rw [decide_eq_false (by omega)]; rfl)), rfl⟩, hL⟩)
              · have k432 := j_ne_f (a := (wd a 1)) (b := (a.length - 3)) (by omega) (by omega) c432
                refine e_aload_n 436 dX7_fits_435 rfl rfl ?_
                refine e_iconst 437 (v := (nI 1)) dX7_fits_436 rfl (by decide) ?_
                refine p_callV 440 hL [1, 0] 2 rfl (by decide) (L1 := [row b2 cb2 a]) (L2 := [row b cb q]) rfl row_O 1 rfl dX7_fits_437 rfl cv_X7_19 (k_X4_word (by omega)) rfl rfl (Nat.le_of_ble_eq_true rfl) ⟨by decide, by omega, by omega⟩ (fun r1 L1 h q hL => ?_)
                obtain ⟨rfl, rfl⟩ := q
                have hL : stars [row b2 cb2 a, row b cb q] h := hL
                have hL : stars [row b cb q, row b2 cb2 a] h := stars_ixn hL 2 rfl [1, 0] (by decide) rfl
                refine e_iconst 441 (v := (nI 2)) dX7_fits_440 rfl (by decide) ?_
                refine e_iconst 442 (v := (nI 2)) dX7_fits_441 rfl (by decide) ?_
                refine e_aload_n 443 dX7_fits_442 rfl rfl ?_
                refine e_iconst 444 (v := (nI 3)) dX7_fits_443 rfl (by decide) ?_
                refine p_callV 447 hL [1, 0] 2 rfl (by decide) (L1 := [row b2 cb2 a]) (L2 := [row b cb q]) rfl row_O 1 rfl dX7_fits_444 rfl cv_X7_19 (k_X4_word (by omega)) rfl rfl (Nat.le_of_ble_eq_true rfl) ⟨by decide, by omega, by omega⟩ (fun r1 L1 h q hL => ?_)
                obtain ⟨rfl, rfl⟩ := q
                have hL : stars [row b2 cb2 a, row b cb q] h := hL
                have hL : stars [row b cb q, row b2 cb2 a] h := stars_ixn hL 2 rfl [1, 0] (by decide) rfl
                refine e_imul 448 (v := (nI (2 * (wd a 3)))) dX7_fits_447 rfl (pk_mul 2 (wd a 3)) ?_
                refine e_iadd 449 (v := (nI (2 + (2 * (wd a 3))))) dX7_fits_448 rfl (nI_add 2 (2 * (wd a 3))) ?_
                refine e_icmp_ne 466 452 dX7_fits_449 rfl rfl (fun c449 => ?_) (fun c449 => ?_)
                · have k449 := j_ne_t (a := (wd a 1)) (b := (2 + (2 * (wd a 3)))) (by omega) (by omega) c449
                  refine e_iconst 467 (v := (nI 0)) dX7_fits_466 rfl (by decide) ?_
                  exact e_zret dX7_fits_467 rfl (Or.inl (by decide)) (by omega) (by omega) (⟨_, ⟨by (rw [fitF, if_neg (by omega), if_neg (by omega), if_neg (by omega), if_neg (by omega), if_neg (by omega), if_neg (by omega), if_neg (by omega), if_neg (by omega), if_neg (by omega), if_neg (by omega), if_pos (by omega)]) <;> (first | (rw [decide_eq_true (by omega)]; rfl) | (rw [decide_eq_false (by omega)]; rfl)), rfl⟩, hL⟩)
                · have k449 := j_ne_f (a := (wd a 1)) (b := (2 + (2 * (wd a 3)))) (by omega) (by omega) c449
                  refine e_aload_n 453 dX7_fits_452 rfl rfl ?_
                  refine e_iconst 454 (v := (nI 3)) dX7_fits_453 rfl (by decide) ?_
                  refine p_callV 457 hL [1, 0] 2 rfl (by decide) (L1 := [row b2 cb2 a]) (L2 := [row b cb q]) rfl row_O 1 rfl dX7_fits_454 rfl cv_X7_19 (k_X4_word (by omega)) rfl rfl (Nat.le_of_ble_eq_true rfl) ⟨by decide, by omega, by omega⟩ (fun r1 L1 h q hL => ?_)
                  obtain ⟨rfl, rfl⟩ := q
                  have hL : stars [row b2 cb2 a, row b cb q] h := hL
                  have hL : stars [row b cb q, row b2 cb2 a] h := stars_ixn hL 2 rfl [1, 0] (by decide) rfl
                  refine e_bipush 459 (v := (nI 31)) dX7_fits_457 rfl (by decide) ?_
                  refine e_icmp_gt 466 462 dX7_fits_459 rfl rfl (fun c459 => ?_) (fun c459 => ?_)
                  · have k459 := j_gt_t (a := (wd a 3)) (b := 31) (by omega) (by omega) c459
                    refine e_iconst 467 (v := (nI 0)) dX7_fits_466 rfl (by decide) ?_
                    exact e_zret dX7_fits_467 rfl (Or.inl (by decide)) (by omega) (by omega) (⟨_, ⟨by (rw [fitF, if_neg (by omega), if_neg (by omega), if_neg (by omega), if_neg (by omega), if_neg (by omega), if_neg (by omega), if_neg (by omega), if_neg (by omega), if_neg (by omega), if_neg (by omega), if_pos (by omega)]) <;> (first | (rw [decide_eq_true (by omega)]; rfl) | (rw [decide_eq_false (by omega)]; rfl)), rfl⟩, hL⟩)
                  · have k459 := j_gt_f (a := (wd a 3)) (b := 31) (by omega) (by omega) c459
                    refine e_iconst 463 (v := (nI 1)) dX7_fits_462 rfl (by decide) ?_
                    refine e_goto 467 dX7_fits_463 rfl ?_
                    exact e_zret dX7_fits_467 rfl (Or.inr (by decide)) (by omega) (by omega) (⟨_, ⟨by (rw [fitF, if_neg (by omega), if_neg (by omega), if_neg (by omega), if_neg (by omega), if_neg (by omega), if_neg (by omega), if_neg (by omega), if_neg (by omega), if_neg (by omega), if_neg (by omega), if_pos (by omega)]) <;> (first | (rw [decide_eq_true (by omega)]; rfl) | (rw [decide_eq_false (by omega)]; rfl)), rfl⟩, hL⟩)
          · refine e_tableIn 468 (off := 413) dX7_fits_55 (by rw [nI_toInt (by omega)]; omega) (by rw [nI_toInt (by omega)]; omega) (by rw [s55]; decide) rfl ?_
            refine e_aload_n 469 dX7_fits_468 rfl rfl ?_
            obtain ⟨z469, y469⟩ := row_at _ 1 hL rfl
            refine e_get 472 dX7_fits_469 rfl fl_X7_9_4 y469 rfl ?_
            refine e_bipush 474 (v := (nI 7)) dX7_fits_472 rfl (by decide) ?_
            refine e_icmp_lt 501 477 dX7_fits_474 rfl rfl (fun c474 => ?_) (fun c474 => ?_)
            · have k474 := j_lt_t (a := a.length) (b := 7) (by omega) (by omega) c474
              refine e_iconst 502 (v := (nI 0)) dX7_fits_501 rfl (by decide) ?_
              exact e_zret dX7_fits_502 rfl (Or.inl (by decide)) (by omega) (by omega) (⟨_, ⟨by (rw [fitF, if_neg (by omega), if_neg (by omega), if_neg (by omega), if_neg (by omega), if_neg (by omega), if_neg (by omega), if_neg (by omega), if_neg (by omega), if_neg (by omega), if_neg (by omega), if_neg (by omega), if_pos (by omega)]) <;> (first | (rw [k483, decide_eq_true k494, decide_eq_true (by omega)]; rfl) | (rw [decide_eq_false k494, Bool.and_false, Bool.and_false]; rfl) | (rw [k483, Bool.false_and, Bool.and_false]; rfl) | (rw [decide_eq_false (by omega)]; rfl)), rfl⟩, hL⟩)
            · have k474 := j_lt_f (a := a.length) (b := 7) (by omega) (by omega) c474
              refine e_aload_n 478 dX7_fits_477 rfl rfl ?_
              refine e_aload_n 479 dX7_fits_478 rfl rfl ?_
              refine e_iconst 480 (v := (nI 3)) dX7_fits_479 rfl (by decide) ?_
              refine p_callV 483 hL [1, 0] 2 rfl (by decide) (L1 := [row b2 cb2 a, row b cb q]) (L2 := []) rfl row_O 1 rfl dX7_fits_480 rfl cv_X7_54 (k_X4_beginsAs (by omega) (b16 ha) (b16 hq)) rfl rfl (Nat.le_of_ble_eq_true rfl) ⟨by decide, by omega, by omega⟩ (fun r1 L1 h q hL => ?_)
              obtain ⟨rfl, rfl⟩ := q
              have hL : stars [row b2 cb2 a, row b cb q] h := hL
              have hL : stars [row b cb q, row b2 cb2 a] h := stars_ixn hL 2 rfl [1, 0] (by decide) rfl
              refine e_if_eq 501 486 dX7_fits_483 rfl rfl (fun c483 => ?_) (fun c483 => ?_)
              · have k483 := jb_eq_t c483
                refine e_iconst 502 (v := (nI 0)) dX7_fits_501 rfl (by decide) ?_
                exact e_zret dX7_fits_502 rfl (Or.inl (by decide)) (by omega) (by omega) (⟨_, ⟨by (rw [fitF, if_neg (by omega), if_neg (by omega), if_neg (by omega), if_neg (by omega), if_neg (by omega), if_neg (by omega), if_neg (by omega), if_neg (by omega), if_neg (by omega), if_neg (by omega), if_neg (by omega), if_pos (by omega)]) <;> (first | (rw [k483, decide_eq_true k494, decide_eq_true (by omega)]; rfl) | (rw [decide_eq_false k494, Bool.and_false, Bool.and_false]; rfl) | (rw [k483, Bool.false_and, Bool.and_false]; rfl) | (rw [decide_eq_false (by omega)]; rfl)), rfl⟩, hL⟩)
              · have k483 := jb_eq_f c483
                refine e_aload_n 487 dX7_fits_486 rfl rfl ?_
                refine p_callS 490 hL [1, 0] 2 rfl (by decide) (L1 := [row b2 cb2 a]) (L2 := [row b cb q]) rfl dX7_fits_487 rfl cs_X7_61 (k_X7_textsEnd ha (by omega)) rfl rfl (Nat.le_of_ble_eq_true rfl) ⟨by decide, by omega, by omega⟩ (fun r1 L1 h q hL => ?_)
                obtain ⟨rfl, rfl⟩ := q
                have hL : stars [row b2 cb2 a, row b cb q] h := hL
                have hL : stars [row b cb q, row b2 cb2 a] h := stars_ixn hL 2 rfl [1, 0] (by decide) rfl
                refine e_aload_n 491 dX7_fits_490 rfl rfl ?_
                obtain ⟨z491, y491⟩ := row_at _ 1 hL rfl
                refine e_get 494 dX7_fits_491 rfl fl_X7_9_4 y491 rfl ?_
                refine e_icmp_ne 501 497 dX7_fits_494 rfl rfl (fun c494 => ?_) (fun c494 => ?_)
                · have k494 : ¬ teF a (a.getD 6 0) 7 = some a.length := fun e => c494 (by rw [e]; rfl)
                  refine e_iconst 502 (v := (nI 0)) dX7_fits_501 rfl (by decide) ?_
                  exact e_zret dX7_fits_502 rfl (Or.inl (by decide)) (by omega) (by omega) (⟨_, ⟨by (rw [fitF, if_neg (by omega), if_neg (by omega), if_neg (by omega), if_neg (by omega), if_neg (by omega), if_neg (by omega), if_neg (by omega), if_neg (by omega), if_neg (by omega), if_neg (by omega), if_neg (by omega), if_pos (by omega)]) <;> (first | (rw [k483, decide_eq_true k494, decide_eq_true (by omega)]; rfl) | (rw [decide_eq_false k494, Bool.and_false, Bool.and_false]; rfl) | (rw [k483, Bool.false_and, Bool.and_false]; rfl) | (rw [decide_eq_false (by omega)]; rfl)), rfl⟩, hL⟩)
                · have k494 : teF a (a.getD 6 0) 7 = some a.length := oI_eq (by omega) (fun z hz => by have := teF_le ha _ _ _ (by omega) hz; omega) c494
                  refine e_iconst 498 (v := (nI 1)) dX7_fits_497 rfl (by decide) ?_
                  refine e_goto 502 dX7_fits_498 rfl ?_
                  exact e_zret dX7_fits_502 rfl (Or.inr (by decide)) (by omega) (by omega) (⟨_, ⟨by (rw [fitF, if_neg (by omega), if_neg (by omega), if_neg (by omega), if_neg (by omega), if_neg (by omega), if_neg (by omega), if_neg (by omega), if_neg (by omega), if_neg (by omega), if_neg (by omega), if_neg (by omega), if_pos (by omega)]) <;> (first | (rw [k483, decide_eq_true k494, decide_eq_true (by omega)]; rfl) | (rw [decide_eq_false k494, Bool.and_false, Bool.and_false]; rfl) | (rw [k483, Bool.false_and, Bool.and_false]; rfl) | (rw [decide_eq_false (by omega)]; rfl)), rfl⟩, hL⟩)
        · have k41 := j_ne_f (a := (a.getD 1 0)) (b := (a.length - 2)) (by omega) (by omega) c41
          refine e_iconst 45 (v := (nI 1)) dX7_fits_44 rfl (by decide) ?_
          refine e_goto 49 dX7_fits_45 rfl ?_
          refine e_istore_n 50 (ls' := [some (.ref b), some (.ref b2), some (.int (nI 1))]) dX7_fits_49 rfl (by decide) rfl ?_
          refine e_aload_n 51 dX7_fits_50 rfl rfl ?_
          refine e_iconst 52 (v := (nI 0)) dX7_fits_51 rfl (by decide) ?_
          refine p_callV 55 hL [0, 1] 2 rfl (by decide) (L1 := [row b cb q]) (L2 := [row b2 cb2 a]) rfl row_O 0 rfl dX7_fits_52 rfl cv_X7_15 (k_X4_at (by omega)) rfl rfl (Nat.le_of_ble_eq_true rfl) ⟨by decide, by omega, by omega⟩ (fun r1 L1 h q hL => ?_)
          obtain ⟨rfl, rfl⟩ := q
          have hL : stars [row b cb q, row b2 cb2 a] h := hL
          rcases (show ((q.getD 0 0) < 1 ∨ 43 < (q.getD 0 0)) ∨ ((q.getD 0 0) = 1 ∨ (q.getD 0 0) = 2) ∨ ((q.getD 0 0) = 3 ∨ (q.getD 0 0) = 4 ∨ (q.getD 0 0) = 23) ∨ ((q.getD 0 0) = 5 ∨ (q.getD 0 0) = 6 ∨ (q.getD 0 0) = 9 ∨ (q.getD 0 0) = 10 ∨ (q.getD 0 0) = 13 ∨ (q.getD 0 0) = 14 ∨ (q.getD 0 0) = 18 ∨ (q.getD 0 0) = 19 ∨ (q.getD 0 0) = 21 ∨ (q.getD 0 0) = 22 ∨ (q.getD 0 0) = 25 ∨ (q.getD 0 0) = 26 ∨ (q.getD 0 0) = 27 ∨ (q.getD 0 0) = 28 ∨ (q.getD 0 0) = 29 ∨ (q.getD 0 0) = 30 ∨ (q.getD 0 0) = 31 ∨ (q.getD 0 0) = 32 ∨ (q.getD 0 0) = 33 ∨ (q.getD 0 0) = 34 ∨ (q.getD 0 0) = 35 ∨ (q.getD 0 0) = 36 ∨ (q.getD 0 0) = 37 ∨ (q.getD 0 0) = 38 ∨ (q.getD 0 0) = 39 ∨ (q.getD 0 0) = 40 ∨ (q.getD 0 0) = 41 ∨ (q.getD 0 0) = 42) ∨ ((q.getD 0 0) = 7) ∨ ((q.getD 0 0) = 8) ∨ ((q.getD 0 0) = 11) ∨ ((q.getD 0 0) = 12) ∨ ((q.getD 0 0) = 15 ∨ (q.getD 0 0) = 16) ∨ ((q.getD 0 0) = 17) ∨ ((q.getD 0 0) = 20) ∨ ((q.getD 0 0) = 24) ∨ ((q.getD 0 0) = 43) by omega) with s55 | s55 | s55 | s55 | s55 | s55 | s55 | s55 | s55 | s55 | s55 | s55 | s55
          · refine e_tableOut 503 dX7_fits_55 (by rw [nI_toInt (by omega)]; omega) rfl ?_
            refine e_aload_n 504 dX7_fits_503 rfl rfl ?_
            refine e_aload_n 505 dX7_fits_504 rfl rfl ?_
            refine p_callS 508 hL [0, 1] 2 rfl (by decide) (L1 := [row b cb q, row b2 cb2 a]) (L2 := []) rfl dX7_fits_505 rfl cs_X7_64 (k_X7_isSame hq ha) rfl rfl (Nat.le_of_ble_eq_true rfl) ⟨by decide, by omega, by omega⟩ (fun r1 L1 h q hL => ?_)
            obtain ⟨rfl, rfl⟩ := q
            have hL : stars [row b cb q, row b2 cb2 a] h := hL
            exact e_zret dX7_fits_508 rfl (bI_01 _) (by omega) (by omega) (⟨_, ⟨by (rw [fitF, if_neg (by omega), if_neg (by omega), if_neg (by omega), if_neg (by omega), if_neg (by omega), if_neg (by omega), if_neg (by omega), if_neg (by omega), if_neg (by omega), if_neg (by omega), if_neg (by omega), if_neg (by omega)]) <;> rfl, rfl⟩, hL⟩)
          · refine e_tableIn 240 (off := 185) dX7_fits_55 (by rw [nI_toInt (by omega)]; omega) (by rw [nI_toInt (by omega)]; omega) (by rcases s55 with s55 | s55 <;> rw [s55] <;> decide) rfl ?_
            refine e_iload_n 241 dX7_fits_240 rfl rfl ?_
            refine e_if_eq 267 244 dX7_fits_241 rfl rfl (fun c241 => absurd c241 (by decide)) (fun c241 => ?_)
            refine e_aload_n 245 dX7_fits_244 rfl rfl ?_
            refine e_iconst 246 (v := (nI 1)) dX7_fits_245 rfl (by decide) ?_
            refine p_callV 249 hL [1, 0] 2 rfl (by decide) (L1 := [row b2 cb2 a]) (L2 := [row b cb q]) rfl row_O 1 rfl dX7_fits_246 rfl cv_X7_15 (k_X4_at (by omega)) rfl rfl (Nat.le_of_ble_eq_true rfl) ⟨by decide, by omega, by omega⟩ (fun r1 L1 h q hL => ?_)
            obtain ⟨rfl, rfl⟩ := q
            have hL : stars [row b2 cb2 a, row b cb q] h := hL
            have hL : stars [row b cb q, row b2 cb2 a] h := stars_ixn hL 2 rfl [1, 0] (by decide) rfl
            refine e_aload_n 250 dX7_fits_249 rfl rfl ?_
            refine e_iconst 251 (v := (nI 3)) dX7_fits_250 rfl (by decide) ?_
            refine p_callV 254 hL [0, 1] 2 rfl (by decide) (L1 := [row b cb q]) (L2 := [row b2 cb2 a]) rfl row_O 0 rfl dX7_fits_251 rfl cv_X7_19 (k_X4_word (by omega)) rfl rfl (Nat.le_of_ble_eq_true rfl) ⟨by decide, by omega, by omega⟩ (fun r1 L1 h q hL => ?_)
            obtain ⟨rfl, rfl⟩ := q
            have hL : stars [row b cb q, row b2 cb2 a] h := hL
            refine e_bipush 256 (v := (nI 7)) dX7_fits_254 rfl (by decide) ?_
            refine e_iadd 257 (v := (nI ((wd q 3) + 7))) dX7_fits_256 rfl (nI_add (wd q 3) 7) ?_
            refine e_bipush 259 (v := (nI 8)) dX7_fits_257 rfl (by decide) ?_
            refine e_idiv 260 (v := (nI ((wd q 3 + 7) / 8))) dX7_fits_259 rfl (by decide) (pk_div (by omega) (by decide) (by decide)) ?_
            refine e_icmp_ne 267 263 dX7_fits_260 rfl rfl (fun c260 => ?_) (fun c260 => ?_)
            · have k260 := j_ne_t (a := (a.getD 1 0)) (b := ((wd q 3 + 7) / 8)) (by omega) (by omega) c260
              refine e_iconst 268 (v := (nI 0)) dX7_fits_267 rfl (by decide) ?_
              exact e_zret dX7_fits_268 rfl (Or.inl (by decide)) (by omega) (by omega) (⟨_, ⟨by (rw [fitF, if_neg (by omega), if_pos (by omega)]) <;> (first | (rw [decide_eq_true (by omega)]; rfl) | (rw [decide_eq_false (by omega)]; rfl)), rfl⟩, hL⟩)
            · have k260 := j_ne_f (a := (a.getD 1 0)) (b := ((wd q 3 + 7) / 8)) (by omega) (by omega) c260
              refine e_iconst 264 (v := (nI 1)) dX7_fits_263 rfl (by decide) ?_
              refine e_goto 268 dX7_fits_264 rfl ?_
              exact e_zret dX7_fits_268 rfl (Or.inr (by decide)) (by omega) (by omega) (⟨_, ⟨by (rw [fitF, if_neg (by omega), if_pos (by omega)]) <;> (first | (rw [decide_eq_true (by omega)]; rfl) | (rw [decide_eq_false (by omega)]; rfl)), rfl⟩, hL⟩)
          · refine e_tableIn 269 (off := 214) dX7_fits_55 (by rw [nI_toInt (by omega)]; omega) (by rw [nI_toInt (by omega)]; omega) (by rcases s55 with s55 | s55 | s55 <;> rw [s55] <;> decide) rfl ?_
            refine e_iload_n 270 dX7_fits_269 rfl rfl ?_
            refine e_if_eq 292 273 dX7_fits_270 rfl rfl (fun c270 => absurd c270 (by decide)) (fun c270 => ?_)
            refine e_aload_n 274 dX7_fits_273 rfl rfl ?_
            refine e_iconst 275 (v := (nI 1)) dX7_fits_274 rfl (by decide) ?_
            refine p_callV 278 hL [1, 0] 2 rfl (by decide) (L1 := [row b2 cb2 a]) (L2 := [row b cb q]) rfl row_O 1 rfl dX7_fits_275 rfl cv_X7_15 (k_X4_at (by omega)) rfl rfl (Nat.le_of_ble_eq_true rfl) ⟨by decide, by omega, by omega⟩ (fun r1 L1 h q hL => ?_)
            obtain ⟨rfl, rfl⟩ := q
            have hL : stars [row b2 cb2 a, row b cb q] h := hL
            have hL : stars [row b cb q, row b2 cb2 a] h := stars_ixn hL 2 rfl [1, 0] (by decide) rfl
            refine e_iconst 279 (v := (nI 2)) dX7_fits_278 rfl (by decide) ?_
            refine e_aload_n 280 dX7_fits_279 rfl rfl ?_
            refine e_iconst 281 (v := (nI 3)) dX7_fits_280 rfl (by decide) ?_
            refine p_callV 284 hL [0, 1] 2 rfl (by decide) (L1 := [row b cb q]) (L2 := [row b2 cb2 a]) rfl row_O 0 rfl dX7_fits_281 rfl cv_X7_19 (k_X4_word (by omega)) rfl rfl (Nat.le_of_ble_eq_true rfl) ⟨by decide, by omega, by omega⟩ (fun r1 L1 h q hL => ?_)
            obtain ⟨rfl, rfl⟩ := q
            have hL : stars [row b cb q, row b2 cb2 a] h := hL
            refine e_imul 285 (v := (nI (2 * (wd q 3)))) dX7_fits_284 rfl (pk_mul 2 (wd q 3)) ?_
            refine e_icmp_ne 292 288 dX7_fits_285 rfl rfl (fun c285 => ?_) (fun c285 => ?_)
            · have k285 := j_ne_t (a := (a.getD 1 0)) (b := (2 * (wd q 3))) (by omega) (by omega) c285
              refine e_iconst 293 (v := (nI 0)) dX7_fits_292 rfl (by decide) ?_
              exact e_zret dX7_fits_293 rfl (Or.inl (by decide)) (by omega) (by omega) (⟨_, ⟨by (rw [fitF, if_neg (by omega), if_neg (by omega), if_pos (by omega)]) <;> (first | (rw [decide_eq_true (by omega)]; rfl) | (rw [decide_eq_false (by omega)]; rfl)), rfl⟩, hL⟩)
            · have k285 := j_ne_f (a := (a.getD 1 0)) (b := (2 * (wd q 3))) (by omega) (by omega) c285
              refine e_iconst 289 (v := (nI 1)) dX7_fits_288 rfl (by decide) ?_
              refine e_goto 293 dX7_fits_289 rfl ?_
              exact e_zret dX7_fits_293 rfl (Or.inr (by decide)) (by omega) (by omega) (⟨_, ⟨by (rw [fitF, if_neg (by omega), if_neg (by omega), if_pos (by omega)]) <;> (first | (rw [decide_eq_true (by omega)]; rfl) | (rw [decide_eq_false (by omega)]; rfl)), rfl⟩, hL⟩)
          · refine e_tableIn 503 (off := 448) dX7_fits_55 (by rw [nI_toInt (by omega)]; omega) (by rw [nI_toInt (by omega)]; omega) (by rcases s55 with s55 | s55 | s55 | s55 | s55 | s55 | s55 | s55 | s55 | s55 | s55 | s55 | s55 | s55 | s55 | s55 | s55 | s55 | s55 | s55 | s55 | s55 | s55 | s55 | s55 | s55 | s55 | s55 <;> rw [s55] <;> decide) rfl ?_
            refine e_aload_n 504 dX7_fits_503 rfl rfl ?_
            refine e_aload_n 505 dX7_fits_504 rfl rfl ?_
            refine p_callS 508 hL [0, 1] 2 rfl (by decide) (L1 := [row b cb q, row b2 cb2 a]) (L2 := []) rfl dX7_fits_505 rfl cs_X7_64 (k_X7_isSame hq ha) rfl rfl (Nat.le_of_ble_eq_true rfl) ⟨by decide, by omega, by omega⟩ (fun r1 L1 h q hL => ?_)
            obtain ⟨rfl, rfl⟩ := q
            have hL : stars [row b cb q, row b2 cb2 a] h := hL
            exact e_zret dX7_fits_508 rfl (bI_01 _) (by omega) (by omega) (⟨_, ⟨by (rw [fitF, if_neg (by omega), if_neg (by omega), if_neg (by omega), if_neg (by omega), if_neg (by omega), if_neg (by omega), if_neg (by omega), if_neg (by omega), if_neg (by omega), if_neg (by omega), if_neg (by omega), if_neg (by omega)]) <;> rfl, rfl⟩, hL⟩)
          · refine e_tableIn 294 (off := 239) dX7_fits_55 (by rw [nI_toInt (by omega)]; omega) (by rw [nI_toInt (by omega)]; omega) (by rw [s55]; decide) rfl ?_
            refine e_aload_n 295 dX7_fits_294 rfl rfl ?_
            obtain ⟨z295, y295⟩ := row_at _ 1 hL rfl
            refine e_get 298 dX7_fits_295 rfl fl_X7_9_4 y295 rfl ?_
            refine e_iconst 299 (v := (nI 2)) dX7_fits_298 rfl (by decide) ?_
            refine e_icmp_ne 306 302 dX7_fits_299 rfl rfl (fun c299 => ?_) (fun c299 => ?_)
            · have k299 := j_ne_t (a := a.length) (b := 2) (by omega) (by omega) c299
              refine e_iconst 307 (v := (nI 0)) dX7_fits_306 rfl (by decide) ?_
              exact e_zret dX7_fits_307 rfl (Or.inl (by decide)) (by omega) (by omega) (⟨_, ⟨by (rw [fitF, if_neg (by omega), if_neg (by omega), if_neg (by omega), if_pos (by omega)]) <;> (first | (rw [decide_eq_true (by omega)]; rfl) | (rw [decide_eq_false (by omega)]; rfl)), rfl⟩, hL⟩)
            · have k299 := j_ne_f (a := a.length) (b := 2) (by omega) (by omega) c299
              refine e_iconst 303 (v := (nI 1)) dX7_fits_302 rfl (by decide) ?_
              refine e_goto 307 dX7_fits_303 rfl ?_
              exact e_zret dX7_fits_307 rfl (Or.inr (by decide)) (by omega) (by omega) (⟨_, ⟨by (rw [fitF, if_neg (by omega), if_neg (by omega), if_neg (by omega), if_pos (by omega)]) <;> (first | (rw [decide_eq_true (by omega)]; rfl) | (rw [decide_eq_false (by omega)]; rfl)), rfl⟩, hL⟩)
          · refine e_tableIn 308 (off := 253) dX7_fits_55 (by rw [nI_toInt (by omega)]; omega) (by rw [nI_toInt (by omega)]; omega) (by rw [s55]; decide) rfl ?_
            refine e_aload_n 309 dX7_fits_308 rfl rfl ?_
            refine e_aload_n 310 dX7_fits_309 rfl rfl ?_
            refine p_callS 313 hL [0, 1] 2 rfl (by decide) (L1 := [row b cb q, row b2 cb2 a]) (L2 := []) rfl dX7_fits_310 rfl cs_X7_50 (k_X7_diagnosisFits hq ha) rfl rfl (Nat.le_of_ble_eq_true rfl) ⟨by decide, by omega, by omega⟩ (fun r1 L1 h q hL => ?_)
            obtain ⟨rfl, rfl⟩ := q
            have hL : stars [row b cb q, row b2 cb2 a] h := hL
            exact e_zret dX7_fits_313 rfl (bI_01 _) (by omega) (by omega) (⟨_, ⟨by (rw [fitF, if_neg (by omega), if_neg (by omega), if_neg (by omega), if_neg (by omega), if_pos (by omega)]) <;> rfl, rfl⟩, hL⟩)
          · refine e_tableIn 314 (off := 259) dX7_fits_55 (by rw [nI_toInt (by omega)]; omega) (by rw [nI_toInt (by omega)]; omega) (by rw [s55]; decide) rfl ?_
            refine e_aload_n 315 dX7_fits_314 rfl rfl ?_
            obtain ⟨z315, y315⟩ := row_at _ 1 hL rfl
            refine e_get 318 dX7_fits_315 rfl fl_X7_9_4 y315 rfl ?_
            refine e_iconst 319 (v := (nI 5)) dX7_fits_318 rfl (by decide) ?_
            refine e_icmp_ne 326 322 dX7_fits_319 rfl rfl (fun c319 => ?_) (fun c319 => ?_)
            · have k319 := j_ne_t (a := a.length) (b := 5) (by omega) (by omega) c319
              refine e_iconst 327 (v := (nI 0)) dX7_fits_326 rfl (by decide) ?_
              exact e_zret dX7_fits_327 rfl (Or.inl (by decide)) (by omega) (by omega) (⟨_, ⟨by (rw [fitF, if_neg (by omega), if_neg (by omega), if_neg (by omega), if_neg (by omega), if_neg (by omega), if_pos (by omega)]) <;> (first | (rw [decide_eq_true (by omega)]; rfl) | (rw [decide_eq_false (by omega)]; rfl)), rfl⟩, hL⟩)
            · have k319 := j_ne_f (a := a.length) (b := 5) (by omega) (by omega) c319
              refine e_iconst 323 (v := (nI 1)) dX7_fits_322 rfl (by decide) ?_
              refine e_goto 327 dX7_fits_323 rfl ?_
              exact e_zret dX7_fits_327 rfl (Or.inr (by decide)) (by omega) (by omega) (⟨_, ⟨by (rw [fitF, if_neg (by omega), if_neg (by omega), if_neg (by omega), if_neg (by omega), if_neg (by omega), if_pos (by omega)]) <;> (first | (rw [decide_eq_true (by omega)]; rfl) | (rw [decide_eq_false (by omega)]; rfl)), rfl⟩, hL⟩)
          · refine e_tableIn 328 (off := 273) dX7_fits_55 (by rw [nI_toInt (by omega)]; omega) (by rw [nI_toInt (by omega)]; omega) (by rw [s55]; decide) rfl ?_
            refine e_iload_n 329 dX7_fits_328 rfl rfl ?_
            refine e_if_eq 351 332 dX7_fits_329 rfl rfl (fun c329 => absurd c329 (by decide)) (fun c329 => ?_)
            refine e_aload_n 333 dX7_fits_332 rfl rfl ?_
            refine e_iconst 334 (v := (nI 1)) dX7_fits_333 rfl (by decide) ?_
            refine p_callV 337 hL [1, 0] 2 rfl (by decide) (L1 := [row b2 cb2 a]) (L2 := [row b cb q]) rfl row_O 1 rfl dX7_fits_334 rfl cv_X7_15 (k_X4_at (by omega)) rfl rfl (Nat.le_of_ble_eq_true rfl) ⟨by decide, by omega, by omega⟩ (fun r1 L1 h q hL => ?_)
            obtain ⟨rfl, rfl⟩ := q
            have hL : stars [row b2 cb2 a, row b cb q] h := hL
            have hL : stars [row b cb q, row b2 cb2 a] h := stars_ixn hL 2 rfl [1, 0] (by decide) rfl
            refine e_bipush 339 (v := (nI 6)) dX7_fits_337 rfl (by decide) ?_
            refine e_bipush 341 (v := (nI 70)) dX7_fits_339 rfl (by decide) ?_
            refine p_callS 344 hL [0, 1] 2 rfl (by decide) (L1 := []) (L2 := [row b cb q, row b2 cb2 a]) rfl dX7_fits_341 rfl cs_X7_22 (k_X11_within (by omega) (by omega) (by omega)) rfl rfl (Nat.le_of_ble_eq_true rfl) ⟨by decide, by omega, by omega⟩ (fun r1 L1 h q hL => ?_)
            obtain ⟨rfl, rfl⟩ := q
            have hL : stars [row b cb q, row b2 cb2 a] h := hL
            refine e_if_eq 351 347 dX7_fits_344 rfl rfl (fun c344 => ?_) (fun c344 => ?_)
            · have k344 := jin_eq_t c344
              refine e_iconst 352 (v := (nI 0)) dX7_fits_351 rfl (by decide) ?_
              exact e_zret dX7_fits_352 rfl (Or.inl (by decide)) (by omega) (by omega) (⟨_, ⟨by (rw [fitF, if_neg (by omega), if_neg (by omega), if_neg (by omega), if_neg (by omega), if_neg (by omega), if_neg (by omega), if_pos (by omega)]) <;> (first | (rw [decide_eq_true (by omega)]; rfl) | (rw [decide_eq_false (by omega)]; rfl)), rfl⟩, hL⟩)
            · have k344 := jin_eq_f c344
              refine e_iconst 348 (v := (nI 1)) dX7_fits_347 rfl (by decide) ?_
              refine e_goto 352 dX7_fits_348 rfl ?_
              exact e_zret dX7_fits_352 rfl (Or.inr (by decide)) (by omega) (by omega) (⟨_, ⟨by (rw [fitF, if_neg (by omega), if_neg (by omega), if_neg (by omega), if_neg (by omega), if_neg (by omega), if_neg (by omega), if_pos (by omega)]) <;> (first | (rw [decide_eq_true (by omega)]; rfl) | (rw [decide_eq_false (by omega)]; rfl)), rfl⟩, hL⟩)
          · refine e_tableIn 353 (off := 298) dX7_fits_55 (by rw [nI_toInt (by omega)]; omega) (by rw [nI_toInt (by omega)]; omega) (by rcases s55 with s55 | s55 <;> rw [s55] <;> decide) rfl ?_
            refine e_aload_n 354 dX7_fits_353 rfl rfl ?_
            obtain ⟨z354, y354⟩ := row_at _ 1 hL rfl
            refine e_get 357 dX7_fits_354 rfl fl_X7_9_4 y354 rfl ?_
            refine e_iconst 358 (v := (nI 5)) dX7_fits_357 rfl (by decide) ?_
            refine e_icmp_ne 374 361 dX7_fits_358 rfl rfl (fun c358 => ?_) (fun c358 => ?_)
            · have k358 := j_ne_t (a := a.length) (b := 5) (by omega) (by omega) c358
              refine e_iconst 375 (v := (nI 0)) dX7_fits_374 rfl (by decide) ?_
              exact e_zret dX7_fits_375 rfl (Or.inl (by decide)) (by omega) (by omega) (⟨_, ⟨by (rw [fitF, if_neg (by omega), if_neg (by omega), if_neg (by omega), if_neg (by omega), if_neg (by omega), if_neg (by omega), if_neg (by omega), if_pos (by omega)]) <;> (first | (rw [k367, decide_eq_true (by omega)]; rfl) | (rw [k367, Bool.and_false]; rfl) | (rw [decide_eq_false (by omega)]; rfl)), rfl⟩, hL⟩)
            · have k358 := j_ne_f (a := a.length) (b := 5) (by omega) (by omega) c358
              refine e_aload_n 362 dX7_fits_361 rfl rfl ?_
              refine e_aload_n 363 dX7_fits_362 rfl rfl ?_
              refine e_iconst 364 (v := (nI 5)) dX7_fits_363 rfl (by decide) ?_
              refine p_callV 367 hL [1, 0] 2 rfl (by decide) (L1 := [row b2 cb2 a, row b cb q]) (L2 := []) rfl row_O 1 rfl dX7_fits_364 rfl cv_X7_54 (k_X4_beginsAs (by omega) (b16 ha) (b16 hq)) rfl rfl (Nat.le_of_ble_eq_true rfl) ⟨by decide, by omega, by omega⟩ (fun r1 L1 h q hL => ?_)
              obtain ⟨rfl, rfl⟩ := q
              have hL : stars [row b2 cb2 a, row b cb q] h := hL
              have hL : stars [row b cb q, row b2 cb2 a] h := stars_ixn hL 2 rfl [1, 0] (by decide) rfl
              refine e_if_eq 374 370 dX7_fits_367 rfl rfl (fun c367 => ?_) (fun c367 => ?_)
              · have k367 := jb_eq_t c367
                refine e_iconst 375 (v := (nI 0)) dX7_fits_374 rfl (by decide) ?_
                exact e_zret dX7_fits_375 rfl (Or.inl (by decide)) (by omega) (by omega) (⟨_, ⟨by (rw [fitF, if_neg (by omega), if_neg (by omega), if_neg (by omega), if_neg (by omega), if_neg (by omega), if_neg (by omega), if_neg (by omega), if_pos (by omega)]) <;> (first | (rw [k367, decide_eq_true (by omega)]; rfl) | (rw [k367, Bool.and_false]; rfl) | (rw [decide_eq_false (by omega)]; rfl)), rfl⟩, hL⟩)
              · have k367 := jb_eq_f c367
                refine e_iconst 371 (v := (nI 1)) dX7_fits_370 rfl (by decide) ?_
                refine e_goto 375 dX7_fits_371 rfl ?_
                exact e_zret dX7_fits_375 rfl (Or.inr (by decide)) (by omega) (by omega) (⟨_, ⟨by (rw [fitF, if_neg (by omega), if_neg (by omega), if_neg (by omega), if_neg (by omega), if_neg (by omega), if_neg (by omega), if_neg (by omega), if_pos (by omega)]) <;> (first | (rw [k367, decide_eq_true (by omega)]; rfl) | (rw [k367, Bool.and_false]; rfl) | (rw [decide_eq_false (by omega)]; rfl)), rfl⟩, hL⟩)
          · refine e_tableIn 376 (off := 321) dX7_fits_55 (by rw [nI_toInt (by omega)]; omega) (by rw [nI_toInt (by omega)]; omega) (by rw [s55]; decide) rfl ?_
            refine e_iload_n 377 dX7_fits_376 rfl rfl ?_
            refine e_if_eq 393 380 dX7_fits_377 rfl rfl (fun c377 => absurd c377 (by decide)) (fun c377 => ?_)
            refine e_aload_n 381 dX7_fits_380 rfl rfl ?_
            refine e_iconst 382 (v := (nI 1)) dX7_fits_381 rfl (by decide) ?_
            refine p_callV 385 hL [1, 0] 2 rfl (by decide) (L1 := [row b2 cb2 a]) (L2 := [row b cb q]) rfl row_O 1 rfl dX7_fits_382 rfl cv_X7_15 (k_X4_at (by omega)) rfl rfl (Nat.le_of_ble_eq_true rfl) ⟨by decide, by omega, by omega⟩ (fun r1 L1 h q hL => ?_)
            obtain ⟨rfl, rfl⟩ := q
            have hL : stars [row b2 cb2 a, row b cb q] h := hL
            have hL : stars [row b cb q, row b2 cb2 a] h := stars_ixn hL 2 rfl [1, 0] (by decide) rfl
            refine e_iconst 386 (v := (nI 1)) dX7_fits_385 rfl (by decide) ?_
            refine e_icmp_lt 393 389 dX7_fits_386 rfl rfl (fun c386 => ?_) (fun c386 => ?_)
            · have k386 := j_lt_t (a := (a.getD 1 0)) (b := 1) (by omega) (by omega) c386
              refine e_iconst 394 (v := (nI 0)) dX7_fits_393 rfl (by decide) ?_
              exact e_zret dX7_fits_394 rfl (Or.inl (by decide)) (by omega) (by omega) (⟨_, ⟨by (rw [fitF, if_neg (by omega), if_neg (by omega), if_neg (by omega), if_neg (by omega), if_neg (by omega), if_neg (by omega), if_neg (by omega), if_neg (by omega), if_pos (by omega)]) <;> (first | (rw [decide_eq_true (by omega)]; rfl) | (rw [decide_eq_false (by omega)]; rfl)), rfl⟩, hL⟩)
            · have k386 := j_lt_f (a := (a.getD 1 0)) (b := 1) (by omega) (by omega) c386
              refine e_iconst 390 (v := (nI 1)) dX7_fits_389 rfl (by decide) ?_
              refine e_goto 394 dX7_fits_390 rfl ?_
              exact e_zret dX7_fits_394 rfl (Or.inr (by decide)) (by omega) (by omega) (⟨_, ⟨by (rw [fitF, if_neg (by omega), if_neg (by omega), if_neg (by omega), if_neg (by omega), if_neg (by omega), if_neg (by omega), if_neg (by omega), if_neg (by omega), if_pos (by omega)]) <;> (first | (rw [decide_eq_true (by omega)]; rfl) | (rw [decide_eq_false (by omega)]; rfl)), rfl⟩, hL⟩)
          · refine e_tableIn 395 (off := 340) dX7_fits_55 (by rw [nI_toInt (by omega)]; omega) (by rw [nI_toInt (by omega)]; omega) (by rw [s55]; decide) rfl ?_
            refine e_iload_n 396 dX7_fits_395 rfl rfl ?_
            refine e_if_eq 411 399 dX7_fits_396 rfl rfl (fun c396 => absurd c396 (by decide)) (fun c396 => ?_)
            refine e_aload_n 400 dX7_fits_399 rfl rfl ?_
            refine e_aload_n 401 dX7_fits_400 rfl rfl ?_
            refine p_callS 404 hL [0, 1] 2 rfl (by decide) (L1 := [row b cb q, row b2 cb2 a]) (L2 := []) rfl dX7_fits_401 rfl cs_X7_58 (k_X7_partsFit hq ha (sh20 (by omega) (by omega)) (by omega)) rfl rfl (Nat.le_of_ble_eq_true rfl) ⟨by decide, by omega, by omega⟩ (fun r1 L1 h q hL => ?_)
            obtain ⟨rfl, rfl⟩ := q
            have hL : stars [row b cb q, row b2 cb2 a] h := hL
            refine e_if_eq 411 407 dX7_fits_404 rfl rfl (fun c404 => ?_) (fun c404 => ?_)
            · have k404 := jb_eq_t c404
              refine e_iconst 412 (v := (nI 0)) dX7_fits_411 rfl (by decide) ?_
              exact e_zret dX7_fits_412 rfl (Or.inl (by decide)) (by omega) (by omega) (⟨_, ⟨by (rw [fitF, if_neg (by omega), if_neg (by omega), if_neg (by omega), if_neg (by omega), if_neg (by omega), if_neg (by omega), if_neg (by omega), if_neg (by omega), if_neg (by omega), if_pos (by omega)]) <;> (first | (rw [k404, decide_eq_true (by omega)]; rfl) | (rw [k404, Bool.and_false]; rfl) | (rw [decide_eq_false (by omega)]; rfl)), rfl⟩, hL⟩)
            · have k404 := jb_eq_f c404
              refine e_iconst 408 (v := (nI 1)) dX7_fits_407 rfl (by decide) ?_
              refine e_goto 412 dX7_fits_408 rfl ?_
              exact e_zret dX7_fits_412 rfl (Or.inr (by decide)) (by omega) (by omega) (⟨_, ⟨by (rw [fitF, if_neg (by omega), if_neg (by omega), if_neg (by omega), if_neg (by omega), if_neg (by omega), if_neg (by omega), if_neg (by omega), if_neg (by omega), if_neg (by omega), if_pos (by omega)]) <;> (first | (rw [k404, decide_eq_true (by omega)]; rfl) | (rw [k404, Bool.and_false]; rfl) | (rw [decide_eq_false (by omega)]; rfl)), rfl⟩, hL⟩)
          · refine e_tableIn 413 (off := 358) dX7_fits_55 (by rw [nI_toInt (by omega)]; omega) (by rw [nI_toInt (by omega)]; omega) (by rw [s55]; decide) rfl ?_
            refine e_aload_n 414 dX7_fits_413 rfl rfl ?_
            obtain ⟨z414, y414⟩ := row_at _ 1 hL rfl
            refine e_get 417 dX7_fits_414 rfl fl_X7_9_4 y414 rfl ?_
            refine e_iconst 418 (v := (nI 5)) dX7_fits_417 rfl (by decide) ?_
            refine e_icmp_lt 466 421 dX7_fits_418 rfl rfl (fun c418 => ?_) (fun c418 => ?_)
            · have k418 := j_lt_t (a := a.length) (b := 5) (by omega) (by omega) c418
              refine e_iconst 467 (v := (nI 0)) dX7_fits_466 rfl (by decide) ?_
              exact e_zret dX7_fits_467 rfl (Or.inl (by decide)) (by omega) (by omega) (⟨_, ⟨by (rw [fitF, if_neg (by omega), if_neg (by omega), if_neg (by omega), if_neg (by omega), if_neg (by omega), if_neg (by omega), if_neg (by omega), if_neg (by omega), if_neg (by omega), if_neg (by omega), if_pos (by omega)]) <;> (first | (rw [decide_eq_true (by omega)]; rfl) | (rw [decide_eq_false (by omega)]; rfl)), rfl⟩, hL⟩)
            · have k418 := j_lt_f (a := a.length) (b := 5) (by omega) (by omega) c418
              refine e_aload_n 422 dX7_fits_421 rfl rfl ?_
              refine e_iconst 423 (v := (nI 1)) dX7_fits_422 rfl (by decide) ?_
              refine p_callV 426 hL [1, 0] 2 rfl (by decide) (L1 := [row b2 cb2 a]) (L2 := [row b cb q]) rfl row_O 1 rfl dX7_fits_423 rfl cv_X7_19 (k_X4_word (by omega)) rfl rfl (Nat.le_of_ble_eq_true rfl) ⟨by decide, by omega, by omega⟩ (fun r1 L1 h q hL => ?_)
              obtain ⟨rfl, rfl⟩ := q
              have hL : stars [row b2 cb2 a, row b cb q] h := hL
              have hL : stars [row b cb q, row b2 cb2 a] h := stars_ixn hL 2 rfl [1, 0] (by decide) rfl
              refine e_aload_n 427 dX7_fits_426 rfl rfl ?_
              obtain ⟨z427, y427⟩ := row_at _ 1 hL rfl
              refine e_get 430 dX7_fits_427 rfl fl_X7_9_4 y427 rfl ?_
              refine e_iconst 431 (v := (nI 3)) dX7_fits_430 rfl (by decide) ?_
              refine e_isub 432 (v := (nI (a.length - 3))) dX7_fits_431 rfl (pk_sub (by omega)) ?_
              refine e_icmp_ne 466 435 dX7_fits_432 rfl rfl (fun c432 => ?_) (fun c432 => ?_)
              · have k432 := j_ne_t (a := (wd a 1)) (b := (a.length - 3)) (by omega) (by omega) c432
                refine e_iconst 467 (v := (nI 0)) dX7_fits_466 rfl (by decide) ?_
                exact e_zret dX7_fits_467 rfl (Or.inl (by decide)) (by omega) (by omega) (⟨_, ⟨by (rw [fitF, if_neg (by omega), if_neg (by omega), if_neg (by omega), if_neg (by omega), if_neg (by omega), if_neg (by omega), if_neg (by omega), if_neg (by omega), if_neg (by omega), if_neg (by omega), if_pos (by omega)]) <;> (first | (rw [decide_eq_true (by omega)]; rfl) | (rw [decide_eq_false (by omega)]; rfl)), rfl⟩, hL⟩)
              · have k432 := j_ne_f (a := (wd a 1)) (b := (a.length - 3)) (by omega) (by omega) c432
                refine e_aload_n 436 dX7_fits_435 rfl rfl ?_
                refine e_iconst 437 (v := (nI 1)) dX7_fits_436 rfl (by decide) ?_
                refine p_callV 440 hL [1, 0] 2 rfl (by decide) (L1 := [row b2 cb2 a]) (L2 := [row b cb q]) rfl row_O 1 rfl dX7_fits_437 rfl cv_X7_19 (k_X4_word (by omega)) rfl rfl (Nat.le_of_ble_eq_true rfl) ⟨by decide, by omega, by omega⟩ (fun r1 L1 h q hL => ?_)
                obtain ⟨rfl, rfl⟩ := q
                have hL : stars [row b2 cb2 a, row b cb q] h := hL
                have hL : stars [row b cb q, row b2 cb2 a] h := stars_ixn hL 2 rfl [1, 0] (by decide) rfl
                refine e_iconst 441 (v := (nI 2)) dX7_fits_440 rfl (by decide) ?_
                refine e_iconst 442 (v := (nI 2)) dX7_fits_441 rfl (by decide) ?_
                refine e_aload_n 443 dX7_fits_442 rfl rfl ?_
                refine e_iconst 444 (v := (nI 3)) dX7_fits_443 rfl (by decide) ?_
                refine p_callV 447 hL [1, 0] 2 rfl (by decide) (L1 := [row b2 cb2 a]) (L2 := [row b cb q]) rfl row_O 1 rfl dX7_fits_444 rfl cv_X7_19 (k_X4_word (by omega)) rfl rfl (Nat.le_of_ble_eq_true rfl) ⟨by decide, by omega, by omega⟩ (fun r1 L1 h q hL => ?_)
                obtain ⟨rfl, rfl⟩ := q
                have hL : stars [row b2 cb2 a, row b cb q] h := hL
                have hL : stars [row b cb q, row b2 cb2 a] h := stars_ixn hL 2 rfl [1, 0] (by decide) rfl
                refine e_imul 448 (v := (nI (2 * (wd a 3)))) dX7_fits_447 rfl (pk_mul 2 (wd a 3)) ?_
                refine e_iadd 449 (v := (nI (2 + (2 * (wd a 3))))) dX7_fits_448 rfl (nI_add 2 (2 * (wd a 3))) ?_
                refine e_icmp_ne 466 452 dX7_fits_449 rfl rfl (fun c449 => ?_) (fun c449 => ?_)
                · have k449 := j_ne_t (a := (wd a 1)) (b := (2 + (2 * (wd a 3)))) (by omega) (by omega) c449
                  refine e_iconst 467 (v := (nI 0)) dX7_fits_466 rfl (by decide) ?_
                  exact e_zret dX7_fits_467 rfl (Or.inl (by decide)) (by omega) (by omega) (⟨_, ⟨by (rw [fitF, if_neg (by omega), if_neg (by omega), if_neg (by omega), if_neg (by omega), if_neg (by omega), if_neg (by omega), if_neg (by omega), if_neg (by omega), if_neg (by omega), if_neg (by omega), if_pos (by omega)]) <;> (first | (rw [decide_eq_true (by omega)]; rfl) | (rw [decide_eq_false (by omega)]; rfl)), rfl⟩, hL⟩)
                · have k449 := j_ne_f (a := (wd a 1)) (b := (2 + (2 * (wd a 3)))) (by omega) (by omega) c449
                  refine e_aload_n 453 dX7_fits_452 rfl rfl ?_
                  refine e_iconst 454 (v := (nI 3)) dX7_fits_453 rfl (by decide) ?_
                  refine p_callV 457 hL [1, 0] 2 rfl (by decide) (L1 := [row b2 cb2 a]) (L2 := [row b cb q]) rfl row_O 1 rfl dX7_fits_454 rfl cv_X7_19 (k_X4_word (by omega)) rfl rfl (Nat.le_of_ble_eq_true rfl) ⟨by decide, by omega, by omega⟩ (fun r1 L1 h q hL => ?_)
                  obtain ⟨rfl, rfl⟩ := q
                  have hL : stars [row b2 cb2 a, row b cb q] h := hL
                  have hL : stars [row b cb q, row b2 cb2 a] h := stars_ixn hL 2 rfl [1, 0] (by decide) rfl
                  refine e_bipush 459 (v := (nI 31)) dX7_fits_457 rfl (by decide) ?_
                  refine e_icmp_gt 466 462 dX7_fits_459 rfl rfl (fun c459 => ?_) (fun c459 => ?_)
                  · have k459 := j_gt_t (a := (wd a 3)) (b := 31) (by omega) (by omega) c459
                    refine e_iconst 467 (v := (nI 0)) dX7_fits_466 rfl (by decide) ?_
                    exact e_zret dX7_fits_467 rfl (Or.inl (by decide)) (by omega) (by omega) (⟨_, ⟨by (rw [fitF, if_neg (by omega), if_neg (by omega), if_neg (by omega), if_neg (by omega), if_neg (by omega), if_neg (by omega), if_neg (by omega), if_neg (by omega), if_neg (by omega), if_neg (by omega), if_pos (by omega)]) <;> (first | (rw [decide_eq_true (by omega)]; rfl) | (rw [decide_eq_false (by omega)]; rfl)), rfl⟩, hL⟩)
                  · have k459 := j_gt_f (a := (wd a 3)) (b := 31) (by omega) (by omega) c459
                    refine e_iconst 463 (v := (nI 1)) dX7_fits_462 rfl (by decide) ?_
                    refine e_goto 467 dX7_fits_463 rfl ?_
                    exact e_zret dX7_fits_467 rfl (Or.inr (by decide)) (by omega) (by omega) (⟨_, ⟨by (rw [fitF, if_neg (by omega), if_neg (by omega), if_neg (by omega), if_neg (by omega), if_neg (by omega), if_neg (by omega), if_neg (by omega), if_neg (by omega), if_neg (by omega), if_neg (by omega), if_pos (by omega)]) <;> (first | (rw [decide_eq_true (by omega)]; rfl) | (rw [decide_eq_false (by omega)]; rfl)), rfl⟩, hL⟩)
          · refine e_tableIn 468 (off := 413) dX7_fits_55 (by rw [nI_toInt (by omega)]; omega) (by rw [nI_toInt (by omega)]; omega) (by rw [s55]; decide) rfl ?_
            refine e_aload_n 469 dX7_fits_468 rfl rfl ?_
            obtain ⟨z469, y469⟩ := row_at _ 1 hL rfl
            refine e_get 472 dX7_fits_469 rfl fl_X7_9_4 y469 rfl ?_
            refine e_bipush 474 (v := (nI 7)) dX7_fits_472 rfl (by decide) ?_
            refine e_icmp_lt 501 477 dX7_fits_474 rfl rfl (fun c474 => ?_) (fun c474 => ?_)
            · have k474 := j_lt_t (a := a.length) (b := 7) (by omega) (by omega) c474
              refine e_iconst 502 (v := (nI 0)) dX7_fits_501 rfl (by decide) ?_
              exact e_zret dX7_fits_502 rfl (Or.inl (by decide)) (by omega) (by omega) (⟨_, ⟨by (rw [fitF, if_neg (by omega), if_neg (by omega), if_neg (by omega), if_neg (by omega), if_neg (by omega), if_neg (by omega), if_neg (by omega), if_neg (by omega), if_neg (by omega), if_neg (by omega), if_neg (by omega), if_pos (by omega)]) <;> (first | (rw [k483, decide_eq_true k494, decide_eq_true (by omega)]; rfl) | (rw [decide_eq_false k494, Bool.and_false, Bool.and_false]; rfl) | (rw [k483, Bool.false_and, Bool.and_false]; rfl) | (rw [decide_eq_false (by omega)]; rfl)), rfl⟩, hL⟩)
            · have k474 := j_lt_f (a := a.length) (b := 7) (by omega) (by omega) c474
              refine e_aload_n 478 dX7_fits_477 rfl rfl ?_
              refine e_aload_n 479 dX7_fits_478 rfl rfl ?_
              refine e_iconst 480 (v := (nI 3)) dX7_fits_479 rfl (by decide) ?_
              refine p_callV 483 hL [1, 0] 2 rfl (by decide) (L1 := [row b2 cb2 a, row b cb q]) (L2 := []) rfl row_O 1 rfl dX7_fits_480 rfl cv_X7_54 (k_X4_beginsAs (by omega) (b16 ha) (b16 hq)) rfl rfl (Nat.le_of_ble_eq_true rfl) ⟨by decide, by omega, by omega⟩ (fun r1 L1 h q hL => ?_)
              obtain ⟨rfl, rfl⟩ := q
              have hL : stars [row b2 cb2 a, row b cb q] h := hL
              have hL : stars [row b cb q, row b2 cb2 a] h := stars_ixn hL 2 rfl [1, 0] (by decide) rfl
              refine e_if_eq 501 486 dX7_fits_483 rfl rfl (fun c483 => ?_) (fun c483 => ?_)
              · have k483 := jb_eq_t c483
                refine e_iconst 502 (v := (nI 0)) dX7_fits_501 rfl (by decide) ?_
                exact e_zret dX7_fits_502 rfl (Or.inl (by decide)) (by omega) (by omega) (⟨_, ⟨by (rw [fitF, if_neg (by omega), if_neg (by omega), if_neg (by omega), if_neg (by omega), if_neg (by omega), if_neg (by omega), if_neg (by omega), if_neg (by omega), if_neg (by omega), if_neg (by omega), if_neg (by omega), if_pos (by omega)]) <;> (first | (rw [k483, decide_eq_true k494, decide_eq_true (by omega)]; rfl) | (rw [decide_eq_false k494, Bool.and_false, Bool.and_false]; rfl) | (rw [k483, Bool.false_and, Bool.and_false]; rfl) | (rw [decide_eq_false (by omega)]; rfl)), rfl⟩, hL⟩)
              · have k483 := jb_eq_f c483
                refine e_aload_n 487 dX7_fits_486 rfl rfl ?_
                refine p_callS 490 hL [1, 0] 2 rfl (by decide) (L1 := [row b2 cb2 a]) (L2 := [row b cb q]) rfl dX7_fits_487 rfl cs_X7_61 (k_X7_textsEnd ha (by omega)) rfl rfl (Nat.le_of_ble_eq_true rfl) ⟨by decide, by omega, by omega⟩ (fun r1 L1 h q hL => ?_)
                obtain ⟨rfl, rfl⟩ := q
                have hL : stars [row b2 cb2 a, row b cb q] h := hL
                have hL : stars [row b cb q, row b2 cb2 a] h := stars_ixn hL 2 rfl [1, 0] (by decide) rfl
                refine e_aload_n 491 dX7_fits_490 rfl rfl ?_
                obtain ⟨z491, y491⟩ := row_at _ 1 hL rfl
                refine e_get 494 dX7_fits_491 rfl fl_X7_9_4 y491 rfl ?_
                refine e_icmp_ne 501 497 dX7_fits_494 rfl rfl (fun c494 => ?_) (fun c494 => ?_)
                · have k494 : ¬ teF a (a.getD 6 0) 7 = some a.length := fun e => c494 (by rw [e]; rfl)
                  refine e_iconst 502 (v := (nI 0)) dX7_fits_501 rfl (by decide) ?_
                  exact e_zret dX7_fits_502 rfl (Or.inl (by decide)) (by omega) (by omega) (⟨_, ⟨by (rw [fitF, if_neg (by omega), if_neg (by omega), if_neg (by omega), if_neg (by omega), if_neg (by omega), if_neg (by omega), if_neg (by omega), if_neg (by omega), if_neg (by omega), if_neg (by omega), if_neg (by omega), if_pos (by omega)]) <;> (first | (rw [k483, decide_eq_true k494, decide_eq_true (by omega)]; rfl) | (rw [decide_eq_false k494, Bool.and_false, Bool.and_false]; rfl) | (rw [k483, Bool.false_and, Bool.and_false]; rfl) | (rw [decide_eq_false (by omega)]; rfl)), rfl⟩, hL⟩)
                · have k494 : teF a (a.getD 6 0) 7 = some a.length := oI_eq (by omega) (fun z hz => by have := teF_le ha _ _ _ (by omega) hz; omega) c494
                  refine e_iconst 498 (v := (nI 1)) dX7_fits_497 rfl (by decide) ?_
                  refine e_goto 502 dX7_fits_498 rfl ?_
                  exact e_zret dX7_fits_502 rfl (Or.inr (by decide)) (by omega) (by omega) (⟨_, ⟨by (rw [fitF, if_neg (by omega), if_neg (by omega), if_neg (by omega), if_neg (by omega), if_neg (by omega), if_neg (by omega), if_neg (by omega), if_neg (by omega), if_neg (by omega), if_neg (by omega), if_neg (by omega), if_pos (by omega)]) <;> (first | (rw [k483, decide_eq_true k494, decide_eq_true (by omega)]; rfl) | (rw [decide_eq_false k494, Bool.and_false, Bool.and_false]; rfl) | (rw [k483, Bool.false_and, Bool.and_false]; rfl) | (rw [decide_eq_false (by omega)]; rfl)), rfl⟩, hL⟩)
    · have k17 := j_eq0_f (a := (shF q)) (by omega) c17
      refine e_iconst 21 (v := (nI 0)) dX7_fits_20 rfl (by decide) ?_
      exact e_zret dX7_fits_21 rfl (Or.inl (by decide)) (by omega) (by omega) (⟨_, ⟨by rw [fitF, if_pos (by omega)]; rfl, rfl⟩, hL⟩)
