theorem hd_at {L1 L2 : List (Option JB)} {v : Nat → Nat} {RQ : List RQE} {RS : List RSE} {R : List SCE × List Nat × (Nat → Bool)} {h1 h2 : Nat} {N1 N2 : List Bool} {j : JB} (hJ : mJ L1 L2 (v, RQ, RS, R) (h1, h2, N1, N2)) (hj : L1[h1]? = some (some j)) (hq : 0 < RQ.length) : hdQ (v, RQ, RS, R) = qd j := by
  cases RQ with
  | nil => exact absurd hq (Nat.lt_irrefl 0)
  | cons e RQ =>
    obtain ⟨j9, g1, g2⟩ := ring_first hJ.1
    simp only at g1
    rw [hj] at g1
    cases g1
    exact g2
set_option maxRecDepth 20000 in
set_option maxHeartbeats 2000000 in
theorem K_fail {m h1 h2 n3 : Nat} {A v : Nat → Nat} {RQ : List RQE} {RS : List RSE} {R : List SCE × List Nat × (Nat → Bool)} {N1 N2 : List Bool} {L1 L2 : List (Option JB)} {j : JB} (hJ : mJ L1 L2 (v, RQ, RS, R) (h1, h2, N1, N2)) (hj : L1[h1]? = some (some j)) (hq : 0 < RQ.length) {wy : Nat} (hv3 : v 3 < 1000) (ha : j.2.2 3 < 100000000) : CA mX3_fail [.ref m, .ref j.1, .int (nI wy)] [pt m (.inr (3, [.ref (A 0), .int (nI (v 1)), .int (nI (v 2)), .int (nI (v 3)), .int (nI (v 4)), .int (nI (v 5)), .ref (A 6), .int (nI h1), .int (nI RQ.length), .int (nI (v 9)), .ref (A 10), .int (nI h2), .int (nI RS.length), .int (nI (v 13)), .int (nI (v 14)), .ref (A 15), .int (nI n3)])), pt (A 6) (.inl (4, 16, .inr (.inr (.inr (.inr (adJ L1)))))), pt (A 10) (.inl (4, 32, .inr (.inr (.inr (.inr (adJ L2)))))), lst slt L1, lst slt L2] (fun r K => ∃ L1' L2', r = none ∧ mJ L1' L2' (flS (v, RQ, RS, R) wy) (flH (v, RQ, RS, R) (h1, h2, N1, N2)) ∧ K = mj m A (flS (v, RQ, RS, R) wy) (flH (v, RQ, RS, R) (h1, h2, N1, N2)) n3 L1' L2') 2 56 0 0 := by
  refine CA.mk 0 (ls := [some (.ref m), some (.ref j.1), some (.int (nI wy))]) rfl rfl (Nat.le_of_ble_eq_true rfl) rfl (fun h hL => ?_)
  have hat : (hdQ (v, RQ, RS, R)).2.2.2 = j.2.2 3 := by rw [hd_at hJ hj hq]; rfl
  refine e_aload_n 1 dX3_fail_0 rfl rfl ?_
  refine e_iconst 2 (v := (nI 0)) dX3_fail_1 rfl (by decide) ?_
  refine p_put 5 hL 0 (fs' := [.ref (A 0), .int (nI 0), .int (nI (v 2)), .int (nI (v 3)), .int (nI (v 4)), .int (nI (v 5)), .ref (A 6), .int (nI h1), .int (nI RQ.length), .int (nI (v 9)), .ref (A 10), .int (nI h2), .int (nI RS.length), .int (nI (v 13)), .int (nI (v 14)), .ref (A 15), .int (nI n3)]) (L' := [pt m (.inr (3, [.ref (A 0), .int (nI 0), .int (nI (v 2)), .int (nI (v 3)), .int (nI (v 4)), .int (nI (v 5)), .ref (A 6), .int (nI h1), .int (nI RQ.length), .int (nI (v 9)), .ref (A 10), .int (nI h2), .int (nI RS.length), .int (nI (v 13)), .int (nI (v 14)), .ref (A 15), .int (nI n3)])), pt (A 6) (.inl (4, 16, .inr (.inr (.inr (.inr (adJ L1)))))), pt (A 10) (.inl (4, 32, .inr (.inr (.inr (.inr (adJ L2)))))), lst slt L1, lst slt L2]) rfl rfl dX3_fail_2 rfl fp_X3_18_3 (Or.inl rfl) (Nat.le_of_ble_eq_true rfl) rfl rfl rfl (fun h hL => ?_)
  refine e_aload_n 6 dX3_fail_5 rfl rfl ?_
  obtain ⟨z6, y6⟩ := job_rd _ 3 hL rfl hj
  refine e_get 9 dX3_fail_6 rfl fl_X3_68_2 y6 rfl ?_
  refine e_aload_n 10 dX3_fail_9 rfl rfl ?_
  refine e_get 13 dX3_fail_10 rfl fl_X3_22_3 (stars_at _ 0 hL rfl) rfl ?_
  refine e_icmp_lt 24 16 dX3_fail_13 rfl rfl (fun c13 => ?_) (fun c13 => ?_)
  · have k13 := j_lt_t (a := (j.2.2 3)) (b := (v 3)) (by omega) (by omega) c13
    exact e_vret dX3_fail_24 rfl (by omega) (by omega) (⟨_, ⟨_, _, rfl, (by simp only [flS, flH, if_neg (show ¬ v 3 ≤ (hdQ (v, RQ, RS, R)).2.2.2 by rw [hat]; omega)]; exact hJ), by simp only [flS, flH, if_neg (show ¬ v 3 ≤ (hdQ (v, RQ, RS, R)).2.2.2 by rw [hat]; omega)]; rfl⟩, hL⟩)
  · have k13 := j_lt_f (a := (j.2.2 3)) (b := (v 3)) (by omega) (by omega) c13
    refine e_aload_n 17 dX3_fail_16 rfl rfl ?_
    refine e_aload_n 18 dX3_fail_17 rfl rfl ?_
    refine e_iconst 19 (v := (nI 2)) dX3_fail_18 rfl (by decide) ?_
    refine e_iload_n 20 dX3_fail_19 rfl rfl ?_
    refine e_null 21 dX3_fail_20 rfl ?_
    refine p_callV 24 hL [0, 1, 2, 3, 4] 5 rfl (by decide) (L1 := [pt m (.inr (3, [.ref (A 0), .int (nI 0), .int (nI (v 2)), .int (nI (v 3)), .int (nI (v 4)), .int (nI (v 5)), .ref (A 6), .int (nI h1), .int (nI RQ.length), .int (nI (v 9)), .ref (A 10), .int (nI h2), .int (nI RS.length), .int (nI (v 13)), .int (nI (v 14)), .ref (A 15), .int (nI n3)])), pt (A 6) (.inl (4, 16, .inr (.inr (.inr (.inr (adJ L1)))))), pt (A 10) (.inl (4, 32, .inr (.inr (.inr (.inr (adJ L2)))))), lst slt L1, lst slt L2]) (L2 := []) rfl isO_pt 0 rfl dX3_fail_21 rfl cv_X3_116 (K_finish (A := A) (n3 := n3) (s := (upN v 1 0, RQ, RS, R)) (z := (h1, h2, N1, N2)) hJ hj hq) rfl rfl (Nat.le_of_ble_eq_true rfl) ⟨by decide, by omega, by omega⟩ (fun r1 L1 h q hL => ?_)
    obtain ⟨L1a, L2a, rfl, hJ2, rfl⟩ := q
    exact e_vret dX3_fail_24 rfl (by omega) (by omega) (⟨_, ⟨_, _, rfl, (by simp only [flS, flH, if_pos (show v 3 ≤ (hdQ (v, RQ, RS, R)).2.2.2 by rw [hat]; omega)]; rw [← fn_ph (x := 0)]; exact hJ2), by simp only [flS, flH, if_pos (show v 3 ≤ (hdQ (v, RQ, RS, R)).2.2.2 by rw [hat]; omega)]; rw [← fn_ph (v := v) (x := 0)]; rfl⟩, hL⟩)
