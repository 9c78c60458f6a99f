/-! the reference: its public methods, first part -/
theorem dIn_in {n : Nat} {x : Int32} (hn : n < 2 ^ 30) : inI x (nI 0) (nI n - nI 1) = dIn n x := by
  have e1 := pk_sub_toInt (a := n) (b := 1) hn (by decide)
  have e2 : (nI n).toInt = (n : Int) := nI_toInt (by omega)
  have e3 : (nI 0).toInt = ((0 : Nat) : Int) := nI_toInt (by decide)
  have e4 : (0 : Int32).toInt = 0 := rfl
  rw [Bool.eq_iff_iff]
  simp only [inI, dIn, Bool.and_eq_true, decide_eq_true_eq, Bool.not_eq_true', Bool.or_eq_false_iff, decide_eq_false_iff_not, Int32.le_iff_toInt_le, Int32.lt_iff_toInt_lt]
  rw [e1, e2, e3, e4]
  omega
theorem inS_nat {n : Nat} {x : Int32} (hn : n < 2 ^ 30) (h : inI x (nI 0) (nI n - nI 1) = true) : ∃ k, x = nI k ∧ k < n := by
  rcases Nat.eq_zero_or_pos n with e | e
  · rw [dIn_in hn] at h
    have := dIn_cl (by omega) h
    omega
  · rw [pk_sub (show 1 ≤ n from e)] at h
    obtain ⟨k, rfl, -, b⟩ := inI_nat (by omega) (by decide) h
    exact ⟨k, rfl, by omega⟩
theorem inS_f {n : Nat} {x : Int32} (hn : n < 2 ^ 30) (h : inI x (nI 0) (nI n - nI 1) = false) : x < 0 ∨ nI n ≤ x := by
  rw [dIn_in hn] at h
  exact dIn_f h
theorem u_sumA {a cap : Nat} {r : List Nat} {h : eH} (hq : iaR a cap r h) (hb : ∀ x ∈ r, x < 65536) (hc : cap < 100000) : PC mX15_sumOf [.ref a, .int (nI r.length)] h (some (.int (nI (crs r)))) 0 0 := by
  have k := u_X15_sumOf hq (Nat.le_refl _) hb hc
  rw [List.take_length] at k
  exact k
theorem by_shr {x s : Int32} {k : Nat} (hk : k = 0 ∨ k = 8 ∨ k = 16 ∨ k = 24) (hs : (s.toBitVec.smod 32).toNat = k) : (x >>> s) &&& nI 255 = nI (x.toBitVec.toNat / 2 ^ k % 2 ^ 8) := by
  have h1 := pk_shr x s k hs
  rw [pk_and (x >>> s) 8 (by decide)]
  refine congrArg nI ?_
  have a1 : x.toInt = if 2 * x.toBitVec.toNat < 2 ^ 32 then (x.toBitVec.toNat : Int) else (x.toBitVec.toNat : Int) - (2 ^ 32 : Nat) := BitVec.toInt_eq_toNat_cond _
  have b1 : (x >>> s).toInt = if 2 * (x >>> s).toBitVec.toNat < 2 ^ 32 then ((x >>> s).toBitVec.toNat : Int) else ((x >>> s).toBitVec.toNat : Int) - (2 ^ 32 : Nat) := BitVec.toInt_eq_toNat_cond _
  have lx := x.toBitVec.isLt
  have ly := (x >>> s).toBitVec.isLt
  rw [Int.shiftRight_eq_div_pow] at h1
  generalize (x >>> s).toBitVec.toNat = Y at *
  generalize (x >>> s).toInt = YI at *
  generalize x.toBitVec.toNat = X at *
  generalize x.toInt = XI at *
  rcases hk with rfl | rfl | rfl | rfl <;> split at a1 <;> split at b1 <;> omega
/-- the bytes of a feed -/
def fdB (a b c d e : Int32) : List Nat := f4 a ++ f4 b ++ f4 c ++ f4 d ++ f4 e
theorem fdB_len {a b c d e : Int32} : (fdB a b c d e).length = 20 := rfl
theorem f4_at {x : Int32} {j : Nat} (hj : j < 4) : (f4 x).getD j 0 = x.toBitVec.toNat / 2 ^ (24 - 8 * j) % 2 ^ 8 := by
  have lx := x.toBitVec.isLt
  match j, hj with
  | 0, _ => show x.toBitVec.toNat / 2 ^ 16 / 2 ^ 8 % 2 ^ 8 = x.toBitVec.toNat / 2 ^ 24 % 2 ^ 8; omega
  | 1, _ => show x.toBitVec.toNat / 2 ^ 16 % 2 ^ 8 = x.toBitVec.toNat / 2 ^ 16 % 2 ^ 8; omega
  | 2, _ => show x.toBitVec.toNat % 2 ^ 16 / 2 ^ 8 % 2 ^ 8 = x.toBitVec.toNat / 2 ^ 8 % 2 ^ 8; omega
  | 3, _ => show x.toBitVec.toNat % 2 ^ 16 % 2 ^ 8 = x.toBitVec.toNat / 2 ^ 0 % 2 ^ 8; omega
theorem f4_sh {x : Int32} {j : Nat} (hj : j < 4) : (x >>> (nI (24 - 8 * j) &&& 31)) &&& nI 255 = nI ((f4 x).getD j 0) := by
  rw [f4_at hj]
  match j, hj with
  | 0, _ => exact by_shr (k := 24) (by decide) (by decide)
  | 1, _ => exact by_shr (k := 16) (by decide) (by decide)
  | 2, _ => exact by_shr (k := 8) (by decide) (by decide)
  | 3, _ => exact by_shr (k := 0) (by decide) (by decide)
theorem fdB_at {a b c d e : Int32} {i : Nat} (hi : i < 20) : (fdB a b c d e).getD i 0 = (f4 (if i < 4 then a else if i < 8 then b else if i < 12 then c else if i < 16 then d else e)).getD (i % 4) 0 := by
  match i, hi with
  | 0, _ => rfl
  | 1, _ => rfl
  | 2, _ => rfl
  | 3, _ => rfl
  | 4, _ => rfl
  | 5, _ => rfl
  | 6, _ => rfl
  | 7, _ => rfl
  | 8, _ => rfl
  | 9, _ => rfl
  | 10, _ => rfl
  | 11, _ => rfl
  | 12, _ => rfl
  | 13, _ => rfl
  | 14, _ => rfl
  | 15, _ => rfl
  | 16, _ => rfl
  | 17, _ => rfl
  | 18, _ => rfl
  | 19, _ => rfl
  | n + 20, h => exact absurd h (by omega)
theorem fd_iw {n i : Nat} {tp B : List Nat} (hB : i < B.length) (hl : tp.length + i < n) : (tp ++ B.take (i + 1)).length ≤ n ∧ ∀ j, j < (tp ++ B.take (i + 1)).length → (j = tp.length + i ∧ (tp ++ B.take (i + 1)).getD j 0 = B.getD i 0) ∨ (j ≠ tp.length + i ∧ j < (tp ++ B.take i).length ∧ (tp ++ B.take (i + 1)).getD j 0 = (tp ++ B.take i).getD j 0) := by
  have e : tp ++ B.take (i + 1) = (tp ++ B.take i) ++ [B.getD i 0] := by
    rw [List.take_succ_eq_append_getElem hB, List.append_assoc]
    simp only [List.getD, List.getElem?_eq_getElem hB, Option.getD_some]
  have l : (tp ++ B.take i).length = tp.length + i := by
    rw [List.length_append, List.length_take]
    omega
  have q := iw_app (n := n) (v := B.getD i 0) (r := tp ++ B.take i) (by omega)
  rw [e, ← l]
  exact q
set_option maxRecDepth 20000 in
set_option maxHeartbeats 2000000 in
theorem k_X15_thrown {m th : Nat} {tp an fr : List Nat} {D : List DS} {wv : Nat → Nat} {hs : List (Nat × Nat)} {v : Nat → Nat} {RQ : List RQE} {RS : List RSE} {SC : List SCE} {er : List Nat} {mb : Nat → Bool} {ck : Nat} : CA mX15_thrown [.ref m] [rfo m (tp, an, D, (fr, wv, hs), (v, RQ, RS, SC, er, mb), ck) th] (fun r K => r = some (.int (nI th)) ∧ K = [rfo m (tp, an, D, (fr, wv, hs), (v, RQ, RS, SC, er, mb), ck) th]) 1 30 0 0 := by
  refine CA.mk 0 (ls := [some (.ref m)]) rfl rfl (Nat.le_of_ble_eq_true rfl) rfl (fun h hL => ?_)
  obtain ⟨F, lt, lf, AN, PD, DL, hc, hL⟩ := rfo_o hL
  have hL : stars [pt m (.inr (13, moF F (mW (tp, an, D, (fr, wv, hs), (v, RQ, RS, SC, er, mb), ck) th AN.length lt lf) (decide (wv 5 ≠ 0)))), pt (F 1) (.inl (6, 6, .inr (.inr (.inr (.inr (adD DL)))))), lst rdve DL, iar (F 3) 300 AN, iar (F 5) 260 PD, rst (F 6) er (v 20) (mb 1) (mb 2), rrw (F 12) 16 3 (RQ.map rqE), rrw (F 13) 32 5 (RS.map rsE), rrw (F 14) 8 4 (SC.map scE), iar (F 21) 260 fr, iar (F 31) 64 (hs.map (·.1)), iar (F 32) 64 (hs.map (·.2)), iar (F 34) 400 tp, iar (F 36) 300 an] h := hL
  have ltp := (iar_V _ 12 hL rfl).le
  have lan := (iar_V _ 13 hL rfl).le
  have lfr := (iar_V _ 9 hL rfl).le
  refine e_aload_n 1 dX15_thrown_0 rfl rfl ?_
  refine e_get 4 (v := (.int (nI th))) dX15_thrown_1 rfl fl_X15_73_13 (stars_at _ 0 hL rfl) rfl ?_
  exact e_iret dX15_thrown_4 rfl (by omega) (by omega) (⟨_, ⟨rfl, rfl⟩, rfo_c (g := (tp, an, D, (fr, wv, hs), (v, RQ, RS, SC, er, mb), ck)) (th := th) (F := F) (lt := lt) (lf := lf) (AN := AN) (PD := PD) (DL := DL) (X := []) hc (stars_ixn hL 14 rfl [0, 1, 2, 3, 4, 5, 6, 7, 8, 9, 10, 11, 12, 13] (by decide) rfl)⟩)
set_option maxRecDepth 20000 in
set_option maxHeartbeats 2000000 in
theorem k_X15_answer {m th : Nat} {tp an fr : List Nat} {D : List DS} {wv : Nat → Nat} {hs : List (Nat × Nat)} {v : Nat → Nat} {RQ : List RQE} {RS : List RSE} {SC : List SCE} {er : List Nat} {mb : Nat → Bool} {ck : Nat} {x : Int32} : CA mX15_answer [.ref m, .int x] [rfo m (tp, an, D, (fr, wv, hs), (v, RQ, RS, SC, er, mb), ck) th] (fun r K => r = some (.int (gI an x)) ∧ K = [rfo m (tp, an, D, (fr, wv, hs), (v, RQ, RS, SC, er, mb), ck) 0]) 1 30 0 0 := by
  refine CA.mk 0 (ls := [some (.ref m), some (.int x)]) rfl rfl (Nat.le_of_ble_eq_true rfl) rfl (fun h hL => ?_)
  obtain ⟨F, lt, lf, AN, PD, DL, hc, hL⟩ := rfo_o hL
  have hL : stars [pt m (.inr (13, moF F (mW (tp, an, D, (fr, wv, hs), (v, RQ, RS, SC, er, mb), ck) th AN.length lt lf) (decide (wv 5 ≠ 0)))), pt (F 1) (.inl (6, 6, .inr (.inr (.inr (.inr (adD DL)))))), lst rdve DL, iar (F 3) 300 AN, iar (F 5) 260 PD, rst (F 6) er (v 20) (mb 1) (mb 2), rrw (F 12) 16 3 (RQ.map rqE), rrw (F 13) 32 5 (RS.map rsE), rrw (F 14) 8 4 (SC.map scE), iar (F 21) 260 fr, iar (F 31) 64 (hs.map (·.1)), iar (F 32) 64 (hs.map (·.2)), iar (F 34) 400 tp, iar (F 36) 300 an] h := hL
  have ltp := (iar_V _ 12 hL rfl).le
  have lan := (iar_V _ 13 hL rfl).le
  have lfr := (iar_V _ 9 hL rfl).le
  refine e_aload_n 1 dX15_answer_0 rfl rfl ?_
  refine e_iconst 2 (v := (nI 0)) dX15_answer_1 rfl (by decide) ?_
  refine p_put 5 hL 0 (fs' := moF F (upN (mW (tp, an, D, (fr, wv, hs), (v, RQ, RS, SC, er, mb), ck) th AN.length lt lf) 0 0) (decide (wv 5 ≠ 0))) (L' := [pt m (.inr (13, moF F (upN (mW (tp, an, D, (fr, wv, hs), (v, RQ, RS, SC, er, mb), ck) th AN.length lt lf) 0 0) (decide (wv 5 ≠ 0)))), pt (F 1) (.inl (6, 6, .inr (.inr (.inr (.inr (adD DL)))))), lst rdve DL, iar (F 3) 300 AN, iar (F 5) 260 PD, rst (F 6) er (v 20) (mb 1) (mb 2), rrw (F 12) 16 3 (RQ.map rqE), rrw (F 13) 32 5 (RS.map rsE), rrw (F 14) 8 4 (SC.map scE), iar (F 21) 260 fr, iar (F 31) 64 (hs.map (·.1)), iar (F 32) 64 (hs.map (·.2)), iar (F 34) 400 tp, iar (F 36) 300 an]) rfl rfl dX15_answer_2 rfl fp_X15_73_13 (Or.inl rfl) (Nat.le_of_ble_eq_true rfl) rfl rfl rfl (fun h hL => ?_)
  refine e_iload_n 6 dX15_answer_5 rfl rfl ?_
  refine e_iconst 7 (v := (nI 0)) dX15_answer_6 rfl (by decide) ?_
  refine e_aload_n 8 dX15_answer_7 rfl rfl ?_
  refine e_get 11 (v := (.int (nI an.length))) dX15_answer_8 rfl fl_X15_474_13 (stars_at _ 0 hL rfl) rfl ?_
  refine e_iconst 12 (v := (nI 1)) dX15_answer_11 rfl (by decide) ?_
  refine e_isub 13 (v := ((nI an.length) - (nI 1))) dX15_answer_12 rfl rfl ?_
  refine u_callS 16 dX15_answer_13 rfl cs_X15_81 u_inI rfl rfl (Nat.le_of_ble_eq_true rfl) (by decide) ⟨by omega, by omega⟩ ?_
  refine e_if_eq 28 19 dX15_answer_16 rfl rfl (fun c16 => ?_) (fun c16 => ?_)
  · have k16 := jb_eq_t c16
    refine e_iconst 29 (v := (-1)) dX15_answer_28 rfl (by decide) ?_
    exact e_iret dX15_answer_29 rfl (by omega) (by omega) (⟨_, ⟨by rw [gI, if_pos (inS_f (by omega) k16)], rfl⟩, rfo_c (g := (tp, an, D, (fr, wv, hs), (v, RQ, RS, SC, er, mb), ck)) (th := 0) (F := F) (lt := lt) (lf := lf) (AN := AN) (PD := PD) (DL := DL) (X := []) hc (stars_ixn hL 14 rfl [0, 1, 2, 3, 4, 5, 6, 7, 8, 9, 10, 11, 12, 13] (by decide) rfl)⟩)
  · have k16 := jb_eq_f c16
    obtain ⟨n, rfl, nb⟩ := inS_nat (by omega) k16
    have nc : (nI n).toNatClampNeg = n := nI_clamp (by omega)
    refine e_aload_n 20 dX15_answer_19 rfl rfl ?_
    refine e_get 23 (v := (.ref (F 36))) dX15_answer_20 rfl fl_X15_69_13 (stars_at _ 0 hL rfl) rfl ?_
    refine e_iload_n 24 dX15_answer_23 rfl rfl ?_
    refine v_iald 25 (r := an) (iar_V _ 13 hL rfl) (k := n) (x := (an.getD n 0)) dX15_answer_24 rfl (by omega) (by omega) rfl ?_
    refine e_goto 29 dX15_answer_25 rfl ?_
    exact e_iret dX15_answer_29 rfl (by omega) (by omega) (⟨_, ⟨by rw [gI_at (by omega) (by omega)], rfl⟩, rfo_c (g := (tp, an, D, (fr, wv, hs), (v, RQ, RS, SC, er, mb), ck)) (th := 0) (F := F) (lt := lt) (lf := lf) (AN := AN) (PD := PD) (DL := DL) (X := []) hc (stars_ixn hL 14 rfl [0, 1, 2, 3, 4, 5, 6, 7, 8, 9, 10, 11, 12, 13] (by decide) rfl)⟩)
set_option maxRecDepth 20000 in
set_option maxHeartbeats 2000000 in
theorem k_X15_sent {m th : Nat} {tp an fr : List Nat} {D : List DS} {wv : Nat → Nat} {hs : List (Nat × Nat)} {v : Nat → Nat} {RQ : List RQE} {RS : List RSE} {SC : List SCE} {er : List Nat} {mb : Nat → Bool} {ck : Nat} {x : Int32} : CA mX15_sent [.ref m, .int x] [rfo m (tp, an, D, (fr, wv, hs), (v, RQ, RS, SC, er, mb), ck) th] (fun r K => r = some (.int (gI fr x)) ∧ K = [rfo m (tp, an, D, (fr, wv, hs), (v, RQ, RS, SC, er, mb), ck) 0]) 1 30 0 0 := by
  refine CA.mk 0 (ls := [some (.ref m), some (.int x)]) rfl rfl (Nat.le_of_ble_eq_true rfl) rfl (fun h hL => ?_)
  obtain ⟨F, lt, lf, AN, PD, DL, hc, hL⟩ := rfo_o hL
  have hL : stars [pt m (.inr (13, moF F (mW (tp, an, D, (fr, wv, hs), (v, RQ, RS, SC, er, mb), ck) th AN.length lt lf) (decide (wv 5 ≠ 0)))), pt (F 1) (.inl (6, 6, .inr (.inr (.inr (.inr (adD DL)))))), lst rdve DL, iar (F 3) 300 AN, iar (F 5) 260 PD, rst (F 6) er (v 20) (mb 1) (mb 2), rrw (F 12) 16 3 (RQ.map rqE), rrw (F 13) 32 5 (RS.map rsE), rrw (F 14) 8 4 (SC.map scE), iar (F 21) 260 fr, iar (F 31) 64 (hs.map (·.1)), iar (F 32) 64 (hs.map (·.2)), iar (F 34) 400 tp, iar (F 36) 300 an] h := hL
  have ltp := (iar_V _ 12 hL rfl).le
  have lan := (iar_V _ 13 hL rfl).le
  have lfr := (iar_V _ 9 hL rfl).le
  refine e_aload_n 1 dX15_sent_0 rfl rfl ?_
  refine e_iconst 2 (v := (nI 0)) dX15_sent_1 rfl (by decide) ?_
  refine p_put 5 hL 0 (fs' := moF F (upN (mW (tp, an, D, (fr, wv, hs), (v, RQ, RS, SC, er, mb), ck) th AN.length lt lf) 0 0) (decide (wv 5 ≠ 0))) (L' := [pt m (.inr (13, moF F (upN (mW (tp, an, D, (fr, wv, hs), (v, RQ, RS, SC, er, mb), ck) th AN.length lt lf) 0 0) (decide (wv 5 ≠ 0)))), pt (F 1) (.inl (6, 6, .inr (.inr (.inr (.inr (adD DL)))))), lst rdve DL, iar (F 3) 300 AN, iar (F 5) 260 PD, rst (F 6) er (v 20) (mb 1) (mb 2), rrw (F 12) 16 3 (RQ.map rqE), rrw (F 13) 32 5 (RS.map rsE), rrw (F 14) 8 4 (SC.map scE), iar (F 21) 260 fr, iar (F 31) 64 (hs.map (·.1)), iar (F 32) 64 (hs.map (·.2)), iar (F 34) 400 tp, iar (F 36) 300 an]) rfl rfl dX15_sent_2 rfl fp_X15_73_13 (Or.inl rfl) (Nat.le_of_ble_eq_true rfl) rfl rfl rfl (fun h hL => ?_)
  refine e_iload_n 6 dX15_sent_5 rfl rfl ?_
  refine e_iconst 7 (v := (nI 0)) dX15_sent_6 rfl (by decide) ?_
  refine e_aload_n 8 dX15_sent_7 rfl rfl ?_
  refine e_get 11 (v := (.int (nI fr.length))) dX15_sent_8 rfl fl_X15_346_13 (stars_at _ 0 hL rfl) rfl ?_
  refine e_iconst 12 (v := (nI 1)) dX15_sent_11 rfl (by decide) ?_
  refine e_isub 13 (v := ((nI fr.length) - (nI 1))) dX15_sent_12 rfl rfl ?_
  refine u_callS 16 dX15_sent_13 rfl cs_X15_81 u_inI rfl rfl (Nat.le_of_ble_eq_true rfl) (by decide) ⟨by omega, by omega⟩ ?_
  refine e_if_eq 28 19 dX15_sent_16 rfl rfl (fun c16 => ?_) (fun c16 => ?_)
  · have k16 := jb_eq_t c16
    refine e_iconst 29 (v := (-1)) dX15_sent_28 rfl (by decide) ?_
    exact e_iret dX15_sent_29 rfl (by omega) (by omega) (⟨_, ⟨by rw [gI, if_pos (inS_f (by omega) k16)], rfl⟩, rfo_c (g := (tp, an, D, (fr, wv, hs), (v, RQ, RS, SC, er, mb), ck)) (th := 0) (F := F) (lt := lt) (lf := lf) (AN := AN) (PD := PD) (DL := DL) (X := []) hc (stars_ixn hL 14 rfl [0, 1, 2, 3, 4, 5, 6, 7, 8, 9, 10, 11, 12, 13] (by decide) rfl)⟩)
  · have k16 := jb_eq_f c16
    obtain ⟨n, rfl, nb⟩ := inS_nat (by omega) k16
    have nc : (nI n).toNatClampNeg = n := nI_clamp (by omega)
    refine e_aload_n 20 dX15_sent_19 rfl rfl ?_
    refine e_get 23 (v := (.ref (F 21))) dX15_sent_20 rfl fl_X15_57_13 (stars_at _ 0 hL rfl) rfl ?_
    refine e_iload_n 24 dX15_sent_23 rfl rfl ?_
    refine v_iald 25 (r := fr) (iar_V _ 9 hL rfl) (k := n) (x := (fr.getD n 0)) dX15_sent_24 rfl (by omega) (by omega) rfl ?_
    refine e_goto 29 dX15_sent_25 rfl ?_
    exact e_iret dX15_sent_29 rfl (by omega) (by omega) (⟨_, ⟨by rw [gI_at (by omega) (by omega)], rfl⟩, rfo_c (g := (tp, an, D, (fr, wv, hs), (v, RQ, RS, SC, er, mb), ck)) (th := 0) (F := F) (lt := lt) (lf := lf) (AN := AN) (PD := PD) (DL := DL) (X := []) hc (stars_ixn hL 14 rfl [0, 1, 2, 3, 4, 5, 6, 7, 8, 9, 10, 11, 12, 13] (by decide) rfl)⟩)
set_option maxRecDepth 20000 in
set_option maxHeartbeats 2000000 in
theorem k_X15_sum {m th : Nat} {tp an fr : List Nat} {D : List DS} {wv : Nat → Nat} {hs : List (Nat × Nat)} {v : Nat → Nat} {RQ : List RQE} {RS : List RSE} {SC : List SCE} {er : List Nat} {mb : Nat → Bool} {ck : Nat} (ht : ∀ x ∈ tp, x < 256) : CA mX15_sum [.ref m] [rfo m (tp, an, D, (fr, wv, hs), (v, RQ, RS, SC, er, mb), ck) th] (fun r K => r = some (.int (nI (crs tp))) ∧ K = [rfo m (tp, an, D, (fr, wv, hs), (v, RQ, RS, SC, er, mb), ck) 0]) 1 40 0 0 := by
  refine CA.mk 0 (ls := [some (.ref m)]) rfl rfl (Nat.le_of_ble_eq_true rfl) rfl (fun h hL => ?_)
  obtain ⟨F, lt, lf, AN, PD, DL, hc, hL⟩ := rfo_o hL
  have hL : stars [pt m (.inr (13, moF F (mW (tp, an, D, (fr, wv, hs), (v, RQ, RS, SC, er, mb), ck) th AN.length lt lf) (decide (wv 5 ≠ 0)))), pt (F 1) (.inl (6, 6, .inr (.inr (.inr (.inr (adD DL)))))), lst rdve DL, iar (F 3) 300 AN, iar (F 5) 260 PD, rst (F 6) er (v 20) (mb 1) (mb 2), rrw (F 12) 16 3 (RQ.map rqE), rrw (F 13) 32 5 (RS.map rsE), rrw (F 14) 8 4 (SC.map scE), iar (F 21) 260 fr, iar (F 31) 64 (hs.map (·.1)), iar (F 32) 64 (hs.map (·.2)), iar (F 34) 400 tp, iar (F 36) 300 an] h := hL
  have ltp := (iar_V _ 12 hL rfl).le
  have lan := (iar_V _ 13 hL rfl).le
  have lfr := (iar_V _ 9 hL rfl).le
  refine e_aload_n 1 dX15_sum_0 rfl rfl ?_
  refine e_iconst 2 (v := (nI 0)) dX15_sum_1 rfl (by decide) ?_
  refine p_put 5 hL 0 (fs' := moF F (upN (mW (tp, an, D, (fr, wv, hs), (v, RQ, RS, SC, er, mb), ck) th AN.length lt lf) 0 0) (decide (wv 5 ≠ 0))) (L' := [pt m (.inr (13, moF F (upN (mW (tp, an, D, (fr, wv, hs), (v, RQ, RS, SC, er, mb), ck) th AN.length lt lf) 0 0) (decide (wv 5 ≠ 0)))), pt (F 1) (.inl (6, 6, .inr (.inr (.inr (.inr (adD DL)))))), lst rdve DL, iar (F 3) 300 AN, iar (F 5) 260 PD, rst (F 6) er (v 20) (mb 1) (mb 2), rrw (F 12) 16 3 (RQ.map rqE), rrw (F 13) 32 5 (RS.map rsE), rrw (F 14) 8 4 (SC.map scE), iar (F 21) 260 fr, iar (F 31) 64 (hs.map (·.1)), iar (F 32) 64 (hs.map (·.2)), iar (F 34) 400 tp, iar (F 36) 300 an]) rfl rfl dX15_sum_2 rfl fp_X15_73_13 (Or.inl rfl) (Nat.le_of_ble_eq_true rfl) rfl rfl rfl (fun h hL => ?_)
  refine e_aload_n 6 dX15_sum_5 rfl rfl ?_
  refine e_get 9 (v := (.ref (F 34))) dX15_sum_6 rfl fl_X15_66_13 (stars_at _ 0 hL rfl) rfl ?_
  refine e_aload_n 10 dX15_sum_9 rfl rfl ?_
  refine e_get 13 (v := (.int (nI tp.length))) dX15_sum_10 rfl fl_X15_432_13 (stars_at _ 0 hL rfl) rfl ?_
  refine u_callS 16 dX15_sum_13 rfl cs_X15_343 (u_sumA (iar_V _ 12 hL rfl) (fun x hx => Nat.lt_trans (ht x hx) (by decide)) (by decide)) rfl rfl (Nat.le_of_ble_eq_true rfl) (by decide) ⟨by omega, by omega⟩ ?_
  exact e_iret dX15_sum_16 rfl (by omega) (by omega) (⟨_, ⟨rfl, rfl⟩, rfo_c (g := (tp, an, D, (fr, wv, hs), (v, RQ, RS, SC, er, mb), ck)) (th := 0) (F := F) (lt := lt) (lf := lf) (AN := AN) (PD := PD) (DL := DL) (X := []) hc (stars_ixn hL 14 rfl [0, 1, 2, 3, 4, 5, 6, 7, 8, 9, 10, 11, 12, 13] (by decide) rfl)⟩)
set_option maxRecDepth 20000 in
set_option maxHeartbeats 2000000 in
theorem k_X15_end {m th : Nat} {tp an fr : List Nat} {D : List DS} {wv : Nat → Nat} {hs : List (Nat × Nat)} {v : Nat → Nat} {RQ : List RQE} {RS : List RSE} {SC : List SCE} {er : List Nat} {mb : Nat → Bool} {ck : Nat} {x : Int32} : CA mX15_end [.ref m, .int x] [rfo m (tp, an, D, (fr, wv, hs), (v, RQ, RS, SC, er, mb), ck) th] (fun r K => r = some (.int (enR (tp, an, D, (fr, wv, hs), (v, RQ, RS, SC, er, mb), ck) x)) ∧ K = [rfo m (enG (tp, an, D, (fr, wv, hs), (v, RQ, RS, SC, er, mb), ck) x) 0]) 1 30 0 0 := by
  refine CA.mk 0 (ls := [some (.ref m), some (.int x)]) rfl rfl (Nat.le_of_ble_eq_true rfl) rfl (fun h hL => ?_)
  obtain ⟨F, lt, lf, AN, PD, DL, hc, hL⟩ := rfo_o hL
  have hL : stars [pt m (.inr (13, moF F (mW (tp, an, D, (fr, wv, hs), (v, RQ, RS, SC, er, mb), ck) th AN.length lt lf) (decide (wv 5 ≠ 0)))), pt (F 1) (.inl (6, 6, .inr (.inr (.inr (.inr (adD DL)))))), lst rdve DL, iar (F 3) 300 AN, iar (F 5) 260 PD, rst (F 6) er (v 20) (mb 1) (mb 2), rrw (F 12) 16 3 (RQ.map rqE), rrw (F 13) 32 5 (RS.map rsE), rrw (F 14) 8 4 (SC.map scE), iar (F 21) 260 fr, iar (F 31) 64 (hs.map (·.1)), iar (F 32) 64 (hs.map (·.2)), iar (F 34) 400 tp, iar (F 36) 300 an] h := hL
  have ltp := (iar_V _ 12 hL rfl).le
  have lan := (iar_V _ 13 hL rfl).le
  have lfr := (iar_V _ 9 hL rfl).le
  refine e_aload_n 1 dX15_end_0 rfl rfl ?_
  refine e_iconst 2 (v := (nI 0)) dX15_end_1 rfl (by decide) ?_
  refine p_put 5 hL 0 (fs' := moF F (upN (mW (tp, an, D, (fr, wv, hs), (v, RQ, RS, SC, er, mb), ck) th AN.length lt lf) 0 0) (decide (wv 5 ≠ 0))) (L' := [pt m (.inr (13, moF F (upN (mW (tp, an, D, (fr, wv, hs), (v, RQ, RS, SC, er, mb), ck) th AN.length lt lf) 0 0) (decide (wv 5 ≠ 0)))), pt (F 1) (.inl (6, 6, .inr (.inr (.inr (.inr (adD DL)))))), lst rdve DL, iar (F 3) 300 AN, iar (F 5) 260 PD, rst (F 6) er (v 20) (mb 1) (mb 2), rrw (F 12) 16 3 (RQ.map rqE), rrw (F 13) 32 5 (RS.map rsE), rrw (F 14) 8 4 (SC.map scE), iar (F 21) 260 fr, iar (F 31) 64 (hs.map (·.1)), iar (F 32) 64 (hs.map (·.2)), iar (F 34) 400 tp, iar (F 36) 300 an]) rfl rfl dX15_end_2 rfl fp_X15_73_13 (Or.inl rfl) (Nat.le_of_ble_eq_true rfl) rfl rfl rfl (fun h hL => ?_)
  refine e_iload_n 6 dX15_end_5 rfl rfl ?_
  refine e_iconst 7 (v := (nI 0)) dX15_end_6 rfl (by decide) ?_
  refine e_aload_n 8 dX15_end_7 rfl rfl ?_
  refine e_get 11 (v := (.int (nI tp.length))) dX15_end_8 rfl fl_X15_432_13 (stars_at _ 0 hL rfl) rfl ?_
  refine u_callS 14 dX15_end_11 rfl cs_X15_81 u_inI rfl rfl (Nat.le_of_ble_eq_true rfl) (by decide) ⟨by omega, by omega⟩ ?_
  refine e_if_ne 19 17 dX15_end_14 rfl rfl (fun c14 => ?_) (fun c14 => ?_)
  · have k14 := jb_ne_t c14
    obtain ⟨n, rfl, na, nb⟩ := inI_nat (by first | decide | omega) (by first | decide | omega) k14
    have nc : (nI n).toNatClampNeg = n := nI_clamp (by omega)
    have hL : stars [pt m (.inr (13, moF F (upN (mW (tp, an, D, (fr, wv, hs), (v, RQ, RS, SC, er, mb), ck) th AN.length lt lf) 0 0) (decide (wv 5 ≠ 0)))), pt (F 1) (.inl (6, 6, .inr (.inr (.inr (.inr (adD DL)))))), lst rdve DL, iar (F 3) 300 AN, iar (F 5) 260 PD, rst (F 6) er (v 20) (mb 1) (mb 2), rrw (F 12) 16 3 (RQ.map rqE), rrw (F 13) 32 5 (RS.map rsE), rrw (F 14) 8 4 (SC.map scE), iar (F 21) 260 fr, iar (F 31) 64 (hs.map (·.1)), iar (F 32) 64 (hs.map (·.2)), iar (F 34) 400 (tp.take n), iar (F 36) 300 an] h := iar_tk 12 n hL rfl rfl
    have ltk : (tp.take n).length = n := by rw [List.length_take]; omega
    refine e_aload_n 20 dX15_end_19 rfl rfl ?_
    refine e_iload_n 21 dX15_end_20 rfl rfl ?_
    refine p_put 24 hL 0 (fs' := moF F (upN (upN (mW (tp, an, D, (fr, wv, hs), (v, RQ, RS, SC, er, mb), ck) th AN.length lt lf) 0 0) 35 n) (decide (wv 5 ≠ 0))) (L' := [pt m (.inr (13, moF F (upN (upN (mW (tp, an, D, (fr, wv, hs), (v, RQ, RS, SC, er, mb), ck) th AN.length lt lf) 0 0) 35 n) (decide (wv 5 ≠ 0)))), pt (F 1) (.inl (6, 6, .inr (.inr (.inr (.inr (adD DL)))))), lst rdve DL, iar (F 3) 300 AN, iar (F 5) 260 PD, rst (F 6) er (v 20) (mb 1) (mb 2), rrw (F 12) 16 3 (RQ.map rqE), rrw (F 13) 32 5 (RS.map rsE), rrw (F 14) 8 4 (SC.map scE), iar (F 21) 260 fr, iar (F 31) 64 (hs.map (·.1)), iar (F 32) 64 (hs.map (·.2)), iar (F 34) 400 (tp.take n), iar (F 36) 300 an]) rfl rfl dX15_end_21 rfl fp_X15_432_13 (Or.inl rfl) (Nat.le_of_ble_eq_true rfl) rfl rfl rfl (fun h hL => ?_)
    have eo : moF F (upN (upN (mW (tp, an, D, (fr, wv, hs), (v, RQ, RS, SC, er, mb), ck) th AN.length lt lf) 0 0) 35 n) (decide (wv 5 ≠ 0)) = moF F (upN (upN (mW (tp, an, D, (fr, wv, hs), (v, RQ, RS, SC, er, mb), ck) th AN.length lt lf) 0 0) 35 (tp.take n).length) (decide (wv 5 ≠ 0)) := by rw [ltk]
    rw [eo] at hL
    have hL : stars [pt m (.inr (13, moF F (upN (upN (mW (tp, an, D, (fr, wv, hs), (v, RQ, RS, SC, er, mb), ck) th AN.length lt lf) 0 0) 35 (tp.take n).length) (decide (wv 5 ≠ 0)))), pt (F 1) (.inl (6, 6, .inr (.inr (.inr (.inr (adD DL)))))), lst rdve DL, iar (F 3) 300 AN, iar (F 5) 260 PD, rst (F 6) er (v 20) (mb 1) (mb 2), rrw (F 12) 16 3 (RQ.map rqE), rrw (F 13) 32 5 (RS.map rsE), rrw (F 14) 8 4 (SC.map scE), iar (F 21) 260 fr, iar (F 31) 64 (hs.map (·.1)), iar (F 32) 64 (hs.map (·.2)), iar (F 34) 400 (tp.take n), iar (F 36) 300 an] h := hL
    refine e_iload_n 25 dX15_end_24 rfl rfl ?_
    exact e_iret dX15_end_25 rfl (by omega) (by omega) (⟨_, ⟨by rw [enR, if_pos k14], by rw [enG, if_pos k14, nc]⟩, rfo_c (g := (tp.take n, an, D, (fr, wv, hs), (v, RQ, RS, SC, er, mb), ck)) (th := 0) (F := F) (lt := lt) (lf := lf) (AN := AN) (PD := PD) (DL := DL) (X := []) hc (stars_ixn hL 14 rfl [0, 1, 2, 3, 4, 5, 6, 7, 8, 9, 10, 11, 12, 13] (by decide) rfl)⟩)
  · have k14 := jb_ne_f c14
    refine e_iconst 18 (v := (-1)) dX15_end_17 rfl (by decide) ?_
    exact e_iret dX15_end_18 rfl (by omega) (by omega) (⟨_, ⟨by rw [enR, if_neg (show ¬ inI x (nI 0) (nI tp.length) = true by rw [k14]; decide)], by rw [enG, if_neg (show ¬ inI x (nI 0) (nI tp.length) = true by rw [k14]; decide)]⟩, rfo_c (g := (tp, an, D, (fr, wv, hs), (v, RQ, RS, SC, er, mb), ck)) (th := 0) (F := F) (lt := lt) (lf := lf) (AN := AN) (PD := PD) (DL := DL) (X := []) hc (stars_ixn hL 14 rfl [0, 1, 2, 3, 4, 5, 6, 7, 8, 9, 10, 11, 12, 13] (by decide) rfl)⟩)
set_option maxRecDepth 20000 in
set_option maxHeartbeats 2000000 in
theorem k_X15_settings {m th : Nat} {tp an fr : List Nat} {D : List DS} {wv : Nat → Nat} {hs : List (Nat × Nat)} {v : Nat → Nat} {RQ : List RQE} {RS : List RSE} {SC : List SCE} {er : List Nat} {mb : Nat → Bool} {ck : Nat} {x1 x2 x3 : Int32} : CA mX15_settings [.ref m, .int x1, .int x2, .int x3] [rfo m (tp, an, D, (fr, wv, hs), (v, RQ, RS, SC, er, mb), ck) th] (fun r K => r = some (.int (bI (seB x1 x2 x3))) ∧ K = [rfo m (sgG (tp, an, D, (fr, wv, hs), (v, RQ, RS, SC, er, mb), ck) x1 x2 x3) 0]) 1 30 0 0 := by
  refine CA.mk 0 (ls := [some (.ref m), some (.int x1), some (.int x2), some (.int x3)]) rfl rfl (Nat.le_of_ble_eq_true rfl) rfl (fun h hL => ?_)
  obtain ⟨F, lt, lf, AN, PD, DL, hc, hL⟩ := rfo_o hL
  have hL : stars [pt m (.inr (13, moF F (mW (tp, an, D, (fr, wv, hs), (v, RQ, RS, SC, er, mb), ck) th AN.length lt lf) (decide (wv 5 ≠ 0)))), pt (F 1) (.inl (6, 6, .inr (.inr (.inr (.inr (adD DL)))))), lst rdve DL, iar (F 3) 300 AN, iar (F 5) 260 PD, rst (F 6) er (v 20) (mb 1) (mb 2), rrw (F 12) 16 3 (RQ.map rqE), rrw (F 13) 32 5 (RS.map rsE), rrw (F 14) 8 4 (SC.map scE), iar (F 21) 260 fr, iar (F 31) 64 (hs.map (·.1)), iar (F 32) 64 (hs.map (·.2)), iar (F 34) 400 tp, iar (F 36) 300 an] h := hL
  have ltp := (iar_V _ 12 hL rfl).le
  have lan := (iar_V _ 13 hL rfl).le
  have lfr := (iar_V _ 9 hL rfl).le
  refine e_aload_n 1 dX15_settings_0 rfl rfl ?_
  refine e_iconst 2 (v := (nI 0)) dX15_settings_1 rfl (by decide) ?_
  refine p_put 5 hL 0 (fs' := moF F (upN (mW (tp, an, D, (fr, wv, hs), (v, RQ, RS, SC, er, mb), ck) th AN.length lt lf) 0 0) (decide (wv 5 ≠ 0))) (L' := [pt m (.inr (13, moF F (upN (mW (tp, an, D, (fr, wv, hs), (v, RQ, RS, SC, er, mb), ck) th AN.length lt lf) 0 0) (decide (wv 5 ≠ 0)))), pt (F 1) (.inl (6, 6, .inr (.inr (.inr (.inr (adD DL)))))), lst rdve DL, iar (F 3) 300 AN, iar (F 5) 260 PD, rst (F 6) er (v 20) (mb 1) (mb 2), rrw (F 12) 16 3 (RQ.map rqE), rrw (F 13) 32 5 (RS.map rsE), rrw (F 14) 8 4 (SC.map scE), iar (F 21) 260 fr, iar (F 31) 64 (hs.map (·.1)), iar (F 32) 64 (hs.map (·.2)), iar (F 34) 400 tp, iar (F 36) 300 an]) rfl rfl dX15_settings_2 rfl fp_X15_73_13 (Or.inl rfl) (Nat.le_of_ble_eq_true rfl) rfl rfl rfl (fun h hL => ?_)
  refine e_iload_n 6 dX15_settings_5 rfl rfl ?_
  refine e_iconst 7 (v := (nI 1)) dX15_settings_6 rfl (by decide) ?_
  refine e_bipush 9 (v := (nI 9)) dX15_settings_7 rfl (by decide) ?_
  refine u_callS 12 dX15_settings_9 rfl cs_X15_81 u_inI rfl rfl (Nat.le_of_ble_eq_true rfl) (by decide) ⟨by omega, by omega⟩ ?_
  refine e_if_eq 38 15 dX15_settings_12 rfl rfl (fun c12 => ?_) (fun c12 => ?_)
  · have k12 := jb_eq_t c12
    refine e_iconst 39 (v := (nI 0)) dX15_settings_38 rfl (by decide) ?_
    exact e_zret dX15_settings_39 rfl (Or.inl (by decide)) (by omega) (by omega) (⟨_, ⟨by rw [show seB x1 x2 x3 = false by simp only [seB, k12, Bool.true_and, Bool.false_and, Bool.and_false, Bool.and_true]]; rfl, by rw [sgG, if_neg (show ¬ seB x1 x2 x3 = true by rw [show seB x1 x2 x3 = false by simp only [seB, k12, Bool.true_and, Bool.false_and, Bool.and_false, Bool.and_true]]; decide)]⟩, rfo_c (g := (tp, an, D, (fr, wv, hs), (v, RQ, RS, SC, er, mb), ck)) (th := 0) (F := F) (lt := lt) (lf := lf) (AN := AN) (PD := PD) (DL := DL) (X := []) hc (stars_ixn hL 14 rfl [0, 1, 2, 3, 4, 5, 6, 7, 8, 9, 10, 11, 12, 13] (by decide) rfl)⟩)
  · have k12 := jb_eq_f c12
    obtain ⟨a, rfl, aa, ab⟩ := inI_nat (by first | decide | omega) (by first | decide | omega) k12
    have ac : (nI a).toNatClampNeg = a := nI_clamp (by omega)
    refine e_iload_n 16 dX15_settings_15 rfl rfl ?_
    refine e_bipush 18 (v := (nI 20)) dX15_settings_16 rfl (by decide) ?_
    refine e_sipush 21 (v := (nI 5000)) dX15_settings_18 rfl (by decide) ?_
    refine u_callS 24 dX15_settings_21 rfl cs_X15_81 u_inI rfl rfl (Nat.le_of_ble_eq_true rfl) (by decide) ⟨by omega, by omega⟩ ?_
    refine e_if_eq 38 27 dX15_settings_24 rfl rfl (fun c24 => ?_) (fun c24 => ?_)
    · have k24 := jb_eq_t c24
      refine e_iconst 39 (v := (nI 0)) dX15_settings_38 rfl (by decide) ?_
      exact e_zret dX15_settings_39 rfl (Or.inl (by decide)) (by omega) (by omega) (⟨_, ⟨by rw [show seB (nI a) x2 x3 = false by simp only [seB, k12, k24, Bool.true_and, Bool.false_and, Bool.and_false, Bool.and_true]]; rfl, by rw [sgG, if_neg (show ¬ seB (nI a) x2 x3 = true by rw [show seB (nI a) x2 x3 = false by simp only [seB, k12, k24, Bool.true_and, Bool.false_and, Bool.and_false, Bool.and_true]]; decide)]⟩, rfo_c (g := (tp, an, D, (fr, wv, hs), (v, RQ, RS, SC, er, mb), ck)) (th := 0) (F := F) (lt := lt) (lf := lf) (AN := AN) (PD := PD) (DL := DL) (X := []) hc (stars_ixn hL 14 rfl [0, 1, 2, 3, 4, 5, 6, 7, 8, 9, 10, 11, 12, 13] (by decide) rfl)⟩)
    · have k24 := jb_eq_f c24
      obtain ⟨t, rfl, ta, tb⟩ := inI_nat (by first | decide | omega) (by first | decide | omega) k24
      have tc : (nI t).toNatClampNeg = t := nI_clamp (by omega)
      refine e_iload_n 28 dX15_settings_27 rfl rfl ?_
      refine e_iconst 29 (v := (nI 0)) dX15_settings_28 rfl (by decide) ?_
      refine e_sipush 32 (v := (nI 2000)) dX15_settings_29 rfl (by decide) ?_
      refine u_callS 35 dX15_settings_32 rfl cs_X15_81 u_inI rfl rfl (Nat.le_of_ble_eq_true rfl) (by decide) ⟨by omega, by omega⟩ ?_
      refine e_if_ne 40 38 dX15_settings_35 rfl rfl (fun c35 => ?_) (fun c35 => ?_)
      · have k35 := jb_ne_t c35
        obtain ⟨u, rfl, ua, ub⟩ := inI_nat (by first | decide | omega) (by first | decide | omega) k35
        have uc : (nI u).toNatClampNeg = u := nI_clamp (by omega)
        refine e_aload_n 41 dX15_settings_40 rfl rfl ?_
        refine e_iload_n 42 dX15_settings_41 rfl rfl ?_
        refine p_put 45 hL 0 (fs' := moF F (upN (upN (mW (tp, an, D, (fr, wv, hs), (v, RQ, RS, SC, er, mb), ck) th AN.length lt lf) 0 0) 9 a) (decide (wv 5 ≠ 0))) (L' := [pt m (.inr (13, moF F (upN (upN (mW (tp, an, D, (fr, wv, hs), (v, RQ, RS, SC, er, mb), ck) th AN.length lt lf) 0 0) 9 a) (decide (wv 5 ≠ 0)))), pt (F 1) (.inl (6, 6, .inr (.inr (.inr (.inr (adD DL)))))), lst rdve DL, iar (F 3) 300 AN, iar (F 5) 260 PD, rst (F 6) er (v 20) (mb 1) (mb 2), rrw (F 12) 16 3 (RQ.map rqE), rrw (F 13) 32 5 (RS.map rsE), rrw (F 14) 8 4 (SC.map scE), iar (F 21) 260 fr, iar (F 31) 64 (hs.map (·.1)), iar (F 32) 64 (hs.map (·.2)), iar (F 34) 400 tp, iar (F 36) 300 an]) rfl rfl dX15_settings_42 rfl fp_X15_29_13 (Or.inl rfl) (Nat.le_of_ble_eq_true rfl) rfl rfl rfl (fun h hL => ?_)
        refine e_aload_n 46 dX15_settings_45 rfl rfl ?_
        refine e_iload_n 47 dX15_settings_46 rfl rfl ?_
        refine p_put 50 hL 0 (fs' := moF F (upN (upN (upN (mW (tp, an, D, (fr, wv, hs), (v, RQ, RS, SC, er, mb), ck) th AN.length lt lf) 0 0) 9 a) 10 t) (decide (wv 5 ≠ 0))) (L' := [pt m (.inr (13, moF F (upN (upN (upN (mW (tp, an, D, (fr, wv, hs), (v, RQ, RS, SC, er, mb), ck) th AN.length lt lf) 0 0) 9 a) 10 t) (decide (wv 5 ≠ 0)))), pt (F 1) (.inl (6, 6, .inr (.inr (.inr (.inr (adD DL)))))), lst rdve DL, iar (F 3) 300 AN, iar (F 5) 260 PD, rst (F 6) er (v 20) (mb 1) (mb 2), rrw (F 12) 16 3 (RQ.map rqE), rrw (F 13) 32 5 (RS.map rsE), rrw (F 14) 8 4 (SC.map scE), iar (F 21) 260 fr, iar (F 31) 64 (hs.map (·.1)), iar (F 32) 64 (hs.map (·.2)), iar (F 34) 400 tp, iar (F 36) 300 an]) rfl rfl dX15_settings_47 rfl fp_X15_33_13 (Or.inl rfl) (Nat.le_of_ble_eq_true rfl) rfl rfl rfl (fun h hL => ?_)
        refine e_aload_n 51 dX15_settings_50 rfl rfl ?_
        refine e_iload_n 52 dX15_settings_51 rfl rfl ?_
        refine p_put 55 hL 0 (fs' := moF F (upN (upN (upN (upN (mW (tp, an, D, (fr, wv, hs), (v, RQ, RS, SC, er, mb), ck) th AN.length lt lf) 0 0) 9 a) 10 t) 11 u) (decide (wv 5 ≠ 0))) (L' := [pt m (.inr (13, moF F (upN (upN (upN (upN (mW (tp, an, D, (fr, wv, hs), (v, RQ, RS, SC, er, mb), ck) th AN.length lt lf) 0 0) 9 a) 10 t) 11 u) (decide (wv 5 ≠ 0)))), pt (F 1) (.inl (6, 6, .inr (.inr (.inr (.inr (adD DL)))))), lst rdve DL, iar (F 3) 300 AN, iar (F 5) 260 PD, rst (F 6) er (v 20) (mb 1) (mb 2), rrw (F 12) 16 3 (RQ.map rqE), rrw (F 13) 32 5 (RS.map rsE), rrw (F 14) 8 4 (SC.map scE), iar (F 21) 260 fr, iar (F 31) 64 (hs.map (·.1)), iar (F 32) 64 (hs.map (·.2)), iar (F 34) 400 tp, iar (F 36) 300 an]) rfl rfl dX15_settings_52 rfl fp_X15_36_13 (Or.inl rfl) (Nat.le_of_ble_eq_true rfl) rfl rfl rfl (fun h hL => ?_)
        refine e_iconst 56 (v := (nI 1)) dX15_settings_55 rfl (by decide) ?_
        exact e_zret dX15_settings_56 rfl (Or.inr (by decide)) (by omega) (by omega) (⟨_, ⟨by rw [show seB (nI a) (nI t) (nI u) = true by simp only [seB, k12, k24, k35, Bool.true_and, Bool.false_and, Bool.and_false, Bool.and_true]]; rfl, by rw [sgG, if_pos (show seB (nI a) (nI t) (nI u) = true by simp only [seB, k12, k24, k35, Bool.true_and, Bool.false_and, Bool.and_false, Bool.and_true]), ac, tc, uc]; rfl⟩, rfo_c (g := (tp, an, D, (fr, wv, hs), (upN (upN (upN v 3 a) 4 t) 5 u, RQ, RS, SC, er, mb), ck)) (th := 0) (F := F) (lt := lt) (lf := lf) (AN := AN) (PD := PD) (DL := DL) (X := []) hc (stars_ixn hL 14 rfl [0, 1, 2, 3, 4, 5, 6, 7, 8, 9, 10, 11, 12, 13] (by decide) rfl)⟩)
      · have k35 := jb_ne_f c35
        refine e_iconst 39 (v := (nI 0)) dX15_settings_38 rfl (by decide) ?_
        exact e_zret dX15_settings_39 rfl (Or.inl (by decide)) (by omega) (by omega) (⟨_, ⟨by rw [show seB (nI a) (nI t) x3 = false by simp only [seB, k12, k24, k35, Bool.true_and, Bool.false_and, Bool.and_false, Bool.and_true]]; rfl, by rw [sgG, if_neg (show ¬ seB (nI a) (nI t) x3 = true by rw [show seB (nI a) (nI t) x3 = false by simp only [seB, k12, k24, k35, Bool.true_and, Bool.false_and, Bool.and_false, Bool.and_true]]; decide)]⟩, rfo_c (g := (tp, an, D, (fr, wv, hs), (v, RQ, RS, SC, er, mb), ck)) (th := 0) (F := F) (lt := lt) (lf := lf) (AN := AN) (PD := PD) (DL := DL) (X := []) hc (stars_ixn hL 14 rfl [0, 1, 2, 3, 4, 5, 6, 7, 8, 9, 10, 11, 12, 13] (by decide) rfl)⟩)
set_option maxRecDepth 20000 in
set_option maxHeartbeats 2000000 in
theorem k_X15_take {m th : Nat} {tp an fr : List Nat} {D : List DS} {wv : Nat → Nat} {hs : List (Nat × Nat)} {v : Nat → Nat} {RQ : List RQE} {RS : List RSE} {SC : List SCE} {er : List Nat} {mb : Nat → Bool} {ck : Nat} : CA mX15_take [.ref m] [rfo m (tp, an, D, (fr, wv, hs), (v, RQ, RS, SC, er, mb), ck) th] (fun r K => r = some (.int (bI (decide (0 < RS.length)))) ∧ K = [rfo m (tkG (tp, an, D, (fr, wv, hs), (v, RQ, RS, SC, er, mb), ck)) 0]) 1 60 0 0 := by
  refine CA.mk 0 (ls := [some (.ref m)]) rfl rfl (Nat.le_of_ble_eq_true rfl) rfl (fun h hL => ?_)
  obtain ⟨F, lt, lf, AN, PD, DL, hc, hL⟩ := rfo_o hL
  have hL : stars [pt m (.inr (13, moF F (mW (tp, an, D, (fr, wv, hs), (v, RQ, RS, SC, er, mb), ck) th AN.length lt lf) (decide (wv 5 ≠ 0)))), pt (F 1) (.inl (6, 6, .inr (.inr (.inr (.inr (adD DL)))))), lst rdve DL, iar (F 3) 300 AN, iar (F 5) 260 PD, rst (F 6) er (v 20) (mb 1) (mb 2), rrw (F 12) 16 3 (RQ.map rqE), rrw (F 13) 32 5 (RS.map rsE), rrw (F 14) 8 4 (SC.map scE), iar (F 21) 260 fr, iar (F 31) 64 (hs.map (·.1)), iar (F 32) 64 (hs.map (·.2)), iar (F 34) 400 tp, iar (F 36) 300 an] h := hL
  have ltp := (iar_V _ 12 hL rfl).le
  have lan := (iar_V _ 13 hL rfl).le
  have lfr := (iar_V _ 9 hL rfl).le
  have lrs : (RS.map rsE).length ≤ 32 := (rrw_V _ 7 hL rfl).choose_spec.2.2.2.2
  refine e_aload_n 1 dX15_take_0 rfl rfl ?_
  refine e_iconst 2 (v := (nI 0)) dX15_take_1 rfl (by decide) ?_
  refine p_put 5 hL 0 (fs' := moF F (upN (mW (tp, an, D, (fr, wv, hs), (v, RQ, RS, SC, er, mb), ck) th AN.length lt lf) 0 0) (decide (wv 5 ≠ 0))) (L' := [pt m (.inr (13, moF F (upN (mW (tp, an, D, (fr, wv, hs), (v, RQ, RS, SC, er, mb), ck) th AN.length lt lf) 0 0) (decide (wv 5 ≠ 0)))), pt (F 1) (.inl (6, 6, .inr (.inr (.inr (.inr (adD DL)))))), lst rdve DL, iar (F 3) 300 AN, iar (F 5) 260 PD, rst (F 6) er (v 20) (mb 1) (mb 2), rrw (F 12) 16 3 (RQ.map rqE), rrw (F 13) 32 5 (RS.map rsE), rrw (F 14) 8 4 (SC.map scE), iar (F 21) 260 fr, iar (F 31) 64 (hs.map (·.1)), iar (F 32) 64 (hs.map (·.2)), iar (F 34) 400 tp, iar (F 36) 300 an]) rfl rfl dX15_take_2 rfl fp_X15_73_13 (Or.inl rfl) (Nat.le_of_ble_eq_true rfl) rfl rfl rfl (fun h hL => ?_)
  refine e_aload_n 6 dX15_take_5 rfl rfl ?_
  refine e_get 9 (v := (.ref (F 13))) dX15_take_6 rfl fl_X15_48_13 (stars_at _ 0 hL rfl) rfl ?_
  obtain ⟨A9, u9_0, u9_1, u9_2, u9_3, u9_4⟩ := rrw_V _ 7 hL rfl
  refine e_get 12 (v := (.int (nI (RS.map rsE).length))) dX15_take_9 rfl fl_X15_298_11 u9_0 rfl ?_
  refine e_if_ne 17 15 dX15_take_12 rfl rfl (fun c12 => ?_) (fun c12 => ?_)
  · have k12 := j_ne0_t (a := (RS.map rsE).length) (by omega) c12
    have lr := List.length_map (f := rsE) (as := RS)
    refine e_aload_n 18 dX15_take_17 rfl rfl ?_
    refine e_get 21 (v := (.ref (F 13))) dX15_take_18 rfl fl_X15_48_13 (stars_at _ 0 hL rfl) rfl ?_
    refine p_callV 24 hL [7, 0, 1, 2, 3, 4, 5, 6, 8, 9, 10, 11, 12, 13] 14 rfl (by decide) (L1 := [rrw (F 13) 32 5 (RS.map rsE)]) (L2 := [pt m (.inr (13, moF F (upN (mW (tp, an, D, (fr, wv, hs), (v, RQ, RS, SC, er, mb), ck) th AN.length lt lf) 0 0) (decide (wv 5 ≠ 0)))), pt (F 1) (.inl (6, 6, .inr (.inr (.inr (.inr (adD DL)))))), lst rdve DL, iar (F 3) 300 AN, iar (F 5) 260 PD, rst (F 6) er (v 20) (mb 1) (mb 2), rrw (F 12) 16 3 (RQ.map rqE), rrw (F 14) 8 4 (SC.map scE), iar (F 21) 260 fr, iar (F 31) 64 (hs.map (·.1)), iar (F 32) 64 (hs.map (·.2)), iar (F 34) 400 tp, iar (F 36) 300 an]) rfl rrw_O 7 rfl dX15_take_21 rfl cv_X15_303 (k_X13_goes (by omega) (by decide)) rfl rfl (Nat.le_of_ble_eq_true rfl) ⟨by decide, by omega, by omega⟩ (fun r1 L1 h q hL => ?_)
    obtain ⟨rfl, rfl⟩ := q
    have hL : stars [rrw (F 13) 32 5 ((RS.map rsE).tail), pt m (.inr (13, moF F (upN (mW (tp, an, D, (fr, wv, hs), (v, RQ, RS, SC, er, mb), ck) th AN.length lt lf) 0 0) (decide (wv 5 ≠ 0)))), pt (F 1) (.inl (6, 6, .inr (.inr (.inr (.inr (adD DL)))))), lst rdve DL, iar (F 3) 300 AN, iar (F 5) 260 PD, rst (F 6) er (v 20) (mb 1) (mb 2), rrw (F 12) 16 3 (RQ.map rqE), rrw (F 14) 8 4 (SC.map scE), iar (F 21) 260 fr, iar (F 31) 64 (hs.map (·.1)), iar (F 32) 64 (hs.map (·.2)), iar (F 34) 400 tp, iar (F 36) 300 an] h := hL
    have hL : stars [pt m (.inr (13, moF F (upN (mW (tp, an, D, (fr, wv, hs), (v, RQ, RS, SC, er, mb), ck) th AN.length lt lf) 0 0) (decide (wv 5 ≠ 0)))), pt (F 1) (.inl (6, 6, .inr (.inr (.inr (.inr (adD DL)))))), lst rdve DL, iar (F 3) 300 AN, iar (F 5) 260 PD, rst (F 6) er (v 20) (mb 1) (mb 2), rrw (F 12) 16 3 (RQ.map rqE), rrw (F 13) 32 5 ((RS.map rsE).tail), rrw (F 14) 8 4 (SC.map scE), iar (F 21) 260 fr, iar (F 31) 64 (hs.map (·.1)), iar (F 32) 64 (hs.map (·.2)), iar (F 34) 400 tp, iar (F 36) 300 an] h := stars_ixn hL 14 rfl [1, 2, 3, 4, 5, 6, 7, 0, 8, 9, 10, 11, 12, 13] (by decide) rfl
    rw [← List.map_tail] at hL
    have hL : stars [pt m (.inr (13, moF F (upN (mW (tp, an, D, (fr, wv, hs), (v, RQ, RS, SC, er, mb), ck) th AN.length lt lf) 0 0) (decide (wv 5 ≠ 0)))), pt (F 1) (.inl (6, 6, .inr (.inr (.inr (.inr (adD DL)))))), lst rdve DL, iar (F 3) 300 AN, iar (F 5) 260 PD, rst (F 6) er (v 20) (mb 1) (mb 2), rrw (F 12) 16 3 (RQ.map rqE), rrw (F 13) 32 5 (RS.tail.map rsE), rrw (F 14) 8 4 (SC.map scE), iar (F 21) 260 fr, iar (F 31) 64 (hs.map (·.1)), iar (F 32) 64 (hs.map (·.2)), iar (F 34) 400 tp, iar (F 36) 300 an] h := hL
    refine e_iconst 25 (v := (nI 1)) dX15_take_24 rfl (by decide) ?_
    exact e_zret dX15_take_25 rfl (Or.inr (by decide)) (by omega) (by omega) (⟨_, ⟨by rw [decide_eq_true (show 0 < RS.length by omega)]; rfl, rfl⟩, rfo_c (g := (tp, an, D, (fr, wv, hs), (v, RQ, RS.tail, SC, er, mb), ck)) (th := 0) (F := F) (lt := lt) (lf := lf) (AN := AN) (PD := PD) (DL := DL) (X := []) hc (stars_ixn hL 14 rfl [0, 1, 2, 3, 4, 5, 6, 7, 8, 9, 10, 11, 12, 13] (by decide) rfl)⟩)
  · have k12 := j_ne0_f (a := (RS.map rsE).length) (by omega) c12
    have lr := List.length_map (f := rsE) (as := RS)
    refine e_iconst 16 (v := (nI 0)) dX15_take_15 rfl (by decide) ?_
    exact e_zret dX15_take_16 rfl (Or.inl (by decide)) (by omega) (by omega) (⟨_, ⟨by rw [decide_eq_false (show ¬ 0 < RS.length by omega)]; rfl, by rw [tkG]; have e9 : RS = [] := List.eq_nil_of_length_eq_zero (by omega); subst e9; rfl⟩, rfo_c (g := (tp, an, D, (fr, wv, hs), (v, RQ, RS, SC, er, mb), ck)) (th := 0) (F := F) (lt := lt) (lf := lf) (AN := AN) (PD := PD) (DL := DL) (X := []) hc (stars_ixn hL 14 rfl [0, 1, 2, 3, 4, 5, 6, 7, 8, 9, 10, 11, 12, 13] (by decide) rfl)⟩)
set_option maxRecDepth 20000 in
set_option maxHeartbeats 2000000 in
theorem l_rfeed {m : Nat} {F w : Nat → Nat} {bg : Bool} {tp : List Nat} {a b c d e : Int32} {X1 X2 X3 X4 X5 X6 X7 X8 X9 X10 X11 X12 : sA} (hl : tp.length + 20 ≤ 400) {Q : Option Value → eH → Prop} (kk : ∀ h, stars [pt m (.inr (13, moF F (upN w 35 (tp.length + 20)) bg)), iar (F 34) 400 (tp ++ (fdB a b c d e)), X1, X2, X3, X4, X5, X6, X7, X8, X9, X10, X11, X12] h → EE mX15_feed 1 30 0 0 Q 120 [some (.ref m), some (.int a), some (.int b), some (.int c), some (.int d), some (.int e), none, none] [] h 0 0) : ∀ (n : Nat) (i : Nat) (h : eH), 20 - i < n → i ≤ 20 → stars [pt m (.inr (13, moF F (upN w 35 (tp.length + i)) bg)), iar (F 34) 400 (tp ++ (fdB a b c d e).take i), X1, X2, X3, X4, X5, X6, X7, X8, X9, X10, X11, X12] h → EE mX15_feed 1 30 0 0 (Q) 23 [some (.ref m), some (.int a), some (.int b), some (.int c), some (.int d), some (.int e), some (.int (nI i)), none] [] h 0 0 := by
  intro n
  induction n with
  | zero => intro i h hlt hle hL; exact absurd hlt (by omega)
  | succ n ih =>
    intro i h hlt hle hL
    refine e_iload 25 dX15_feed_23 rfl rfl ?_
    refine e_bipush 27 (v := (nI 20)) dX15_feed_25 rfl (by decide) ?_
    refine e_icmp_ge 120 30 dX15_feed_27 rfl rfl (fun c27 => ?_) (fun c27 => ?_)
    · have k27 := j_ge_t (a := i) (b := 20) (by omega) (by omega) c27
      rw [show i = 20 by omega] at hL
      have e20 : (fdB a b c d e).take 20 = (fdB a b c d e) := List.take_of_length_le (Nat.le_refl _)
      rw [e20] at hL
      refine e_wk [some (.ref m), some (.int a), some (.int b), some (.int c), some (.int d), some (.int e), none, none] ⟨rfl, rfl, rfl, rfl, rfl, rfl, trivial⟩ ?_
      exact kk h hL
    · have k27 := j_ge_f (a := i) (b := 20) (by omega) (by omega) c27
      refine e_iload 32 dX15_feed_30 rfl rfl ?_
      refine e_iconst 33 (v := (nI 4)) dX15_feed_32 rfl (by decide) ?_
      refine e_icmp_ge 40 36 dX15_feed_33 rfl rfl (fun c33 => ?_) (fun c33 => ?_)
      · have k33 := j_ge_t (a := i) (b := 4) (by omega) (by omega) c33
        refine e_iload 42 dX15_feed_40 rfl rfl ?_
        refine e_bipush 44 (v := (nI 8)) dX15_feed_42 rfl (by decide) ?_
        refine e_icmp_ge 51 47 dX15_feed_44 rfl rfl (fun c44 => ?_) (fun c44 => ?_)
        · have k44 := j_ge_t (a := i) (b := 8) (by omega) (by omega) c44
          refine e_iload 53 dX15_feed_51 rfl rfl ?_
          refine e_bipush 55 (v := (nI 12)) dX15_feed_53 rfl (by decide) ?_
          refine e_icmp_ge 62 58 dX15_feed_55 rfl rfl (fun c55 => ?_) (fun c55 => ?_)
          · have k55 := j_ge_t (a := i) (b := 12) (by omega) (by omega) c55
            refine e_iload 64 dX15_feed_62 rfl rfl ?_
            refine e_bipush 66 (v := (nI 16)) dX15_feed_64 rfl (by decide) ?_
            refine e_icmp_ge 74 69 dX15_feed_66 rfl rfl (fun c66 => ?_) (fun c66 => ?_)
            · have k66 := j_ge_t (a := i) (b := 16) (by omega) (by omega) c66
              refine e_iload 76 dX15_feed_74 rfl rfl ?_
              refine e_istore 78 (ls' := [some (.ref m), some (.int a), some (.int b), some (.int c), some (.int d), some (.int e), some (.int (nI i)), some (.int e)]) dX15_feed_76 rfl (by decide) rfl ?_
              refine e_aload_n 79 dX15_feed_78 rfl rfl ?_
              refine e_get 82 (v := (.ref (F 34))) dX15_feed_79 rfl fl_X15_66_13 (stars_at _ 0 hL rfl) rfl ?_
              refine e_aload_n 83 dX15_feed_82 rfl rfl ?_
              refine e_get 86 (v := (.int (nI (tp.length + i)))) dX15_feed_83 rfl fl_X15_432_13 (stars_at _ 0 hL rfl) rfl ?_
              refine e_iload 88 dX15_feed_86 rfl rfl ?_
              refine e_bipush 90 (v := (nI 24)) dX15_feed_88 rfl (by decide) ?_
              refine e_bipush 92 (v := (nI 8)) dX15_feed_90 rfl (by decide) ?_
              refine e_iload 94 dX15_feed_92 rfl rfl ?_
              refine e_iconst 95 (v := (nI 4)) dX15_feed_94 rfl (by decide) ?_
              refine e_irem 96 (v := (nI (i % 4))) dX15_feed_95 rfl (by decide) (pk_rem (by omega) (by decide) (by decide)) ?_
              refine e_imul 97 (v := (nI (8 * (i % 4)))) dX15_feed_96 rfl (pk_mul 8 (i % 4)) ?_
              refine e_isub 98 (v := (nI (24 - (8 * (i % 4))))) dX15_feed_97 rfl (pk_sub (by omega)) ?_
              refine e_ishr 99 (v := (e >>> ((nI (24 - (8 * (i % 4)))) &&& 31))) dX15_feed_98 rfl rfl ?_
              refine e_sipush 102 (v := (nI 255)) dX15_feed_99 rfl (by decide) ?_
              refine e_iand 103 (v := (nI ((fdB a b c d e).getD i 0))) dX15_feed_102 rfl (by rw [fdB_at (show i < 20 by omega), if_neg (show ¬ i < 4 by omega), if_neg (show ¬ i < 8 by omega), if_neg (show ¬ i < 12 by omega), if_neg (show ¬ i < 16 by omega)]; exact f4_sh (by omega)) ?_
              refine p_iastR 104 hL 1 (r := (tp ++ (fdB a b c d e).take i)) (r' := (tp ++ (fdB a b c d e).take (i + 1))) (k := (tp.length + i)) (v := ((fdB a b c d e).getD i 0)) (L' := [pt m (.inr (13, moF F (upN w 35 (tp.length + i)) bg)), iar (F 34) 400 (tp ++ (fdB a b c d e).take (i + 1)), X1, X2, X3, X4, X5, X6, X7, X8, X9, X10, X11, X12]) rfl dX15_feed_103 rfl (by omega) (by omega) (fd_iw (by rw [fdB_len]; omega) (by omega)) rfl (fun h hL => ?_)
              refine e_aload_n 105 dX15_feed_104 rfl rfl ?_
              refine e_dup 106 dX15_feed_105 rfl rfl ?_
              refine e_get 109 (v := (.int (nI (tp.length + i)))) dX15_feed_106 rfl fl_X15_432_13 (stars_at _ 0 hL rfl) rfl ?_
              refine e_iconst 110 (v := (nI 1)) dX15_feed_109 rfl (by decide) ?_
              refine e_iadd 111 (v := (nI ((tp.length + i) + 1))) dX15_feed_110 rfl (nI_add (tp.length + i) 1) ?_
              refine p_put 114 hL 0 (fs' := moF F (upN (upN w 35 (tp.length + i)) 35 ((tp.length + i) + 1)) bg) (L' := [pt m (.inr (13, moF F (upN (upN w 35 (tp.length + i)) 35 ((tp.length + i) + 1)) bg)), iar (F 34) 400 (tp ++ (fdB a b c d e).take (i + 1)), X1, X2, X3, X4, X5, X6, X7, X8, X9, X10, X11, X12]) rfl rfl dX15_feed_111 rfl fp_X15_432_13 (Or.inl rfl) (Nat.le_of_ble_eq_true rfl) rfl rfl rfl (fun h hL => ?_)
              refine e_iinc 117 (v := (nI (i + 1))) (ls' := [some (.ref m), some (.int a), some (.int b), some (.int c), some (.int d), some (.int e), some (.int (nI (i + 1))), some (.int e)]) dX15_feed_114 rfl rfl (nI_add i 1) (by decide) rfl ?_
              refine e_goto 23 dX15_feed_117 rfl ?_
              refine e_wk [some (.ref m), some (.int a), some (.int b), some (.int c), some (.int d), some (.int e), some (.int (nI (i + 1))), none] ⟨rfl, rfl, rfl, rfl, rfl, rfl, rfl, trivial⟩ ?_
              exact ih (i + 1) h (by omega) (by omega) hL
            · have k66 := j_ge_f (a := i) (b := 16) (by omega) (by omega) c66
              refine e_iload 71 dX15_feed_69 rfl rfl ?_
              refine e_goto 76 dX15_feed_71 rfl ?_
              refine e_istore 78 (ls' := [some (.ref m), some (.int a), some (.int b), some (.int c), some (.int d), some (.int e), some (.int (nI i)), some (.int d)]) dX15_feed_76 rfl (by decide) rfl ?_
              refine e_aload_n 79 dX15_feed_78 rfl rfl ?_
              refine e_get 82 (v := (.ref (F 34))) dX15_feed_79 rfl fl_X15_66_13 (stars_at _ 0 hL rfl) rfl ?_
              refine e_aload_n 83 dX15_feed_82 rfl rfl ?_
              refine e_get 86 (v := (.int (nI (tp.length + i)))) dX15_feed_83 rfl fl_X15_432_13 (stars_at _ 0 hL rfl) rfl ?_
              refine e_iload 88 dX15_feed_86 rfl rfl ?_
              refine e_bipush 90 (v := (nI 24)) dX15_feed_88 rfl (by decide) ?_
              refine e_bipush 92 (v := (nI 8)) dX15_feed_90 rfl (by decide) ?_
              refine e_iload 94 dX15_feed_92 rfl rfl ?_
              refine e_iconst 95 (v := (nI 4)) dX15_feed_94 rfl (by decide) ?_
              refine e_irem 96 (v := (nI (i % 4))) dX15_feed_95 rfl (by decide) (pk_rem (by omega) (by decide) (by decide)) ?_
              refine e_imul 97 (v := (nI (8 * (i % 4)))) dX15_feed_96 rfl (pk_mul 8 (i % 4)) ?_
              refine e_isub 98 (v := (nI (24 - (8 * (i % 4))))) dX15_feed_97 rfl (pk_sub (by omega)) ?_
              refine e_ishr 99 (v := (d >>> ((nI (24 - (8 * (i % 4)))) &&& 31))) dX15_feed_98 rfl rfl ?_
              refine e_sipush 102 (v := (nI 255)) dX15_feed_99 rfl (by decide) ?_
              refine e_iand 103 (v := (nI ((fdB a b c d e).getD i 0))) dX15_feed_102 rfl (by rw [fdB_at (show i < 20 by omega), if_neg (show ¬ i < 4 by omega), if_neg (show ¬ i < 8 by omega), if_neg (show ¬ i < 12 by omega), if_pos (show i < 16 by omega)]; exact f4_sh (by omega)) ?_
              refine p_iastR 104 hL 1 (r := (tp ++ (fdB a b c d e).take i)) (r' := (tp ++ (fdB a b c d e).take (i + 1))) (k := (tp.length + i)) (v := ((fdB a b c d e).getD i 0)) (L' := [pt m (.inr (13, moF F (upN w 35 (tp.length + i)) bg)), iar (F 34) 400 (tp ++ (fdB a b c d e).take (i + 1)), X1, X2, X3, X4, X5, X6, X7, X8, X9, X10, X11, X12]) rfl dX15_feed_103 rfl (by omega) (by omega) (fd_iw (by rw [fdB_len]; omega) (by omega)) rfl (fun h hL => ?_)
              refine e_aload_n 105 dX15_feed_104 rfl rfl ?_
              refine e_dup 106 dX15_feed_105 rfl rfl ?_
              refine e_get 109 (v := (.int (nI (tp.length + i)))) dX15_feed_106 rfl fl_X15_432_13 (stars_at _ 0 hL rfl) rfl ?_
              refine e_iconst 110 (v := (nI 1)) dX15_feed_109 rfl (by decide) ?_
              refine e_iadd 111 (v := (nI ((tp.length + i) + 1))) dX15_feed_110 rfl (nI_add (tp.length + i) 1) ?_
              refine p_put 114 hL 0 (fs' := moF F (upN (upN w 35 (tp.length + i)) 35 ((tp.length + i) + 1)) bg) (L' := [pt m (.inr (13, moF F (upN (upN w 35 (tp.length + i)) 35 ((tp.length + i) + 1)) bg)), iar (F 34) 400 (tp ++ (fdB a b c d e).take (i + 1)), X1, X2, X3, X4, X5, X6, X7, X8, X9, X10, X11, X12]) rfl rfl dX15_feed_111 rfl fp_X15_432_13 (Or.inl rfl) (Nat.le_of_ble_eq_true rfl) rfl rfl rfl (fun h hL => ?_)
              refine e_iinc 117 (v := (nI (i + 1))) (ls' := [some (.ref m), some (.int a), some (.int b), some (.int c), some (.int d), some (.int e), some (.int (nI (i + 1))), some (.int d)]) dX15_feed_114 rfl rfl (nI_add i 1) (by decide) rfl ?_
              refine e_goto 23 dX15_feed_117 rfl ?_
              refine e_wk [some (.ref m), some (.int a), some (.int b), some (.int c), some (.int d), some (.int e), some (.int (nI (i + 1))), none] ⟨rfl, rfl, rfl, rfl, rfl, rfl, rfl, trivial⟩ ?_
              exact ih (i + 1) h (by omega) (by omega) hL
          · have k55 := j_ge_f (a := i) (b := 12) (by omega) (by omega) c55
            refine e_iload_n 59 dX15_feed_58 rfl rfl ?_
            refine e_goto 76 dX15_feed_59 rfl ?_
            refine e_istore 78 (ls' := [some (.ref m), some (.int a), some (.int b), some (.int c), some (.int d), some (.int e), some (.int (nI i)), some (.int c)]) dX15_feed_76 rfl (by decide) rfl ?_
            refine e_aload_n 79 dX15_feed_78 rfl rfl ?_
            refine e_get 82 (v := (.ref (F 34))) dX15_feed_79 rfl fl_X15_66_13 (stars_at _ 0 hL rfl) rfl ?_
            refine e_aload_n 83 dX15_feed_82 rfl rfl ?_
            refine e_get 86 (v := (.int (nI (tp.length + i)))) dX15_feed_83 rfl fl_X15_432_13 (stars_at _ 0 hL rfl) rfl ?_
            refine e_iload 88 dX15_feed_86 rfl rfl ?_
            refine e_bipush 90 (v := (nI 24)) dX15_feed_88 rfl (by decide) ?_
            refine e_bipush 92 (v := (nI 8)) dX15_feed_90 rfl (by decide) ?_
            refine e_iload 94 dX15_feed_92 rfl rfl ?_
            refine e_iconst 95 (v := (nI 4)) dX15_feed_94 rfl (by decide) ?_
            refine e_irem 96 (v := (nI (i % 4))) dX15_feed_95 rfl (by decide) (pk_rem (by omega) (by decide) (by decide)) ?_
            refine e_imul 97 (v := (nI (8 * (i % 4)))) dX15_feed_96 rfl (pk_mul 8 (i % 4)) ?_
            refine e_isub 98 (v := (nI (24 - (8 * (i % 4))))) dX15_feed_97 rfl (pk_sub (by omega)) ?_
            refine e_ishr 99 (v := (c >>> ((nI (24 - (8 * (i % 4)))) &&& 31))) dX15_feed_98 rfl rfl ?_
            refine e_sipush 102 (v := (nI 255)) dX15_feed_99 rfl (by decide) ?_
            refine e_iand 103 (v := (nI ((fdB a b c d e).getD i 0))) dX15_feed_102 rfl (by rw [fdB_at (show i < 20 by omega), if_neg (show ¬ i < 4 by omega), if_neg (show ¬ i < 8 by omega), if_pos (show i < 12 by omega)]; exact f4_sh (by omega)) ?_
            refine p_iastR 104 hL 1 (r := (tp ++ (fdB a b c d e).take i)) (r' := (tp ++ (fdB a b c d e).take (i + 1))) (k := (tp.length + i)) (v := ((fdB a b c d e).getD i 0)) (L' := [pt m (.inr (13, moF F (upN w 35 (tp.length + i)) bg)), iar (F 34) 400 (tp ++ (fdB a b c d e).take (i + 1)), X1, X2, X3, X4, X5, X6, X7, X8, X9, X10, X11, X12]) rfl dX15_feed_103 rfl (by omega) (by omega) (fd_iw (by rw [fdB_len]; omega) (by omega)) rfl (fun h hL => ?_)
            refine e_aload_n 105 dX15_feed_104 rfl rfl ?_
            refine e_dup 106 dX15_feed_105 rfl rfl ?_
            refine e_get 109 (v := (.int (nI (tp.length + i)))) dX15_feed_106 rfl fl_X15_432_13 (stars_at _ 0 hL rfl) rfl ?_
            refine e_iconst 110 (v := (nI 1)) dX15_feed_109 rfl (by decide) ?_
            refine e_iadd 111 (v := (nI ((tp.length + i) + 1))) dX15_feed_110 rfl (nI_add (tp.length + i) 1) ?_
            refine p_put 114 hL 0 (fs' := moF F (upN (upN w 35 (tp.length + i)) 35 ((tp.length + i) + 1)) bg) (L' := [pt m (.inr (13, moF F (upN (upN w 35 (tp.length + i)) 35 ((tp.length + i) + 1)) bg)), iar (F 34) 400 (tp ++ (fdB a b c d e).take (i + 1)), X1, X2, X3, X4, X5, X6, X7, X8, X9, X10, X11, X12]) rfl rfl dX15_feed_111 rfl fp_X15_432_13 (Or.inl rfl) (Nat.le_of_ble_eq_true rfl) rfl rfl rfl (fun h hL => ?_)
            refine e_iinc 117 (v := (nI (i + 1))) (ls' := [some (.ref m), some (.int a), some (.int b), some (.int c), some (.int d), some (.int e), some (.int (nI (i + 1))), some (.int c)]) dX15_feed_114 rfl rfl (nI_add i 1) (by decide) rfl ?_
            refine e_goto 23 dX15_feed_117 rfl ?_
            refine e_wk [some (.ref m), some (.int a), some (.int b), some (.int c), some (.int d), some (.int e), some (.int (nI (i + 1))), none] ⟨rfl, rfl, rfl, rfl, rfl, rfl, rfl, trivial⟩ ?_
            exact ih (i + 1) h (by omega) (by omega) hL
        · have k44 := j_ge_f (a := i) (b := 8) (by omega) (by omega) c44
          refine e_iload_n 48 dX15_feed_47 rfl rfl ?_
          refine e_goto 76 dX15_feed_48 rfl ?_
          refine e_istore 78 (ls' := [some (.ref m), some (.int a), some (.int b), some (.int c), some (.int d), some (.int e), some (.int (nI i)), some (.int b)]) dX15_feed_76 rfl (by decide) rfl ?_
          refine e_aload_n 79 dX15_feed_78 rfl rfl ?_
          refine e_get 82 (v := (.ref (F 34))) dX15_feed_79 rfl fl_X15_66_13 (stars_at _ 0 hL rfl) rfl ?_
          refine e_aload_n 83 dX15_feed_82 rfl rfl ?_
          refine e_get 86 (v := (.int (nI (tp.length + i)))) dX15_feed_83 rfl fl_X15_432_13 (stars_at _ 0 hL rfl) rfl ?_
          refine e_iload 88 dX15_feed_86 rfl rfl ?_
          refine e_bipush 90 (v := (nI 24)) dX15_feed_88 rfl (by decide) ?_
          refine e_bipush 92 (v := (nI 8)) dX15_feed_90 rfl (by decide) ?_
          refine e_iload 94 dX15_feed_92 rfl rfl ?_
          refine e_iconst 95 (v := (nI 4)) dX15_feed_94 rfl (by decide) ?_
          refine e_irem 96 (v := (nI (i % 4))) dX15_feed_95 rfl (by decide) (pk_rem (by omega) (by decide) (by decide)) ?_
          refine e_imul 97 (v := (nI (8 * (i % 4)))) dX15_feed_96 rfl (pk_mul 8 (i % 4)) ?_
          refine e_isub 98 (v := (nI (24 - (8 * (i % 4))))) dX15_feed_97 rfl (pk_sub (by omega)) ?_
          refine e_ishr 99 (v := (b >>> ((nI (24 - (8 * (i % 4)))) &&& 31))) dX15_feed_98 rfl rfl ?_
          refine e_sipush 102 (v := (nI 255)) dX15_feed_99 rfl (by decide) ?_
          refine e_iand 103 (v := (nI ((fdB a b c d e).getD i 0))) dX15_feed_102 rfl (by rw [fdB_at (show i < 20 by omega), if_neg (show ¬ i < 4 by omega), if_pos (show i < 8 by omega)]; exact f4_sh (by omega)) ?_
          refine p_iastR 104 hL 1 (r := (tp ++ (fdB a b c d e).take i)) (r' := (tp ++ (fdB a b c d e).take (i + 1))) (k := (tp.length + i)) (v := ((fdB a b c d e).getD i 0)) (L' := [pt m (.inr (13, moF F (upN w 35 (tp.length + i)) bg)), iar (F 34) 400 (tp ++ (fdB a b c d e).take (i + 1)), X1, X2, X3, X4, X5, X6, X7, X8, X9, X10, X11, X12]) rfl dX15_feed_103 rfl (by omega) (by omega) (fd_iw (by rw [fdB_len]; omega) (by omega)) rfl (fun h hL => ?_)
          refine e_aload_n 105 dX15_feed_104 rfl rfl ?_
          refine e_dup 106 dX15_feed_105 rfl rfl ?_
          refine e_get 109 (v := (.int (nI (tp.length + i)))) dX15_feed_106 rfl fl_X15_432_13 (stars_at _ 0 hL rfl) rfl ?_
          refine e_iconst 110 (v := (nI 1)) dX15_feed_109 rfl (by decide) ?_
          refine e_iadd 111 (v := (nI ((tp.length + i) + 1))) dX15_feed_110 rfl (nI_add (tp.length + i) 1) ?_
          refine p_put 114 hL 0 (fs' := moF F (upN (upN w 35 (tp.length + i)) 35 ((tp.length + i) + 1)) bg) (L' := [pt m (.inr (13, moF F (upN (upN w 35 (tp.length + i)) 35 ((tp.length + i) + 1)) bg)), iar (F 34) 400 (tp ++ (fdB a b c d e).take (i + 1)), X1, X2, X3, X4, X5, X6, X7, X8, X9, X10, X11, X12]) rfl rfl dX15_feed_111 rfl fp_X15_432_13 (Or.inl rfl) (Nat.le_of_ble_eq_true rfl) rfl rfl rfl (fun h hL => ?_)
          refine e_iinc 117 (v := (nI (i + 1))) (ls' := [some (.ref m), some (.int a), some (.int b), some (.int c), some (.int d), some (.int e), some (.int (nI (i + 1))), some (.int b)]) dX15_feed_114 rfl rfl (nI_add i 1) (by decide) rfl ?_
          refine e_goto 23 dX15_feed_117 rfl ?_
          refine e_wk [some (.ref m), some (.int a), some (.int b), some (.int c), some (.int d), some (.int e), some (.int (nI (i + 1))), none] ⟨rfl, rfl, rfl, rfl, rfl, rfl, rfl, trivial⟩ ?_
          exact ih (i + 1) h (by omega) (by omega) hL
      · have k33 := j_ge_f (a := i) (b := 4) (by omega) (by omega) c33
        refine e_iload_n 37 dX15_feed_36 rfl rfl ?_
        refine e_goto 76 dX15_feed_37 rfl ?_
        refine e_istore 78 (ls' := [some (.ref m), some (.int a), some (.int b), some (.int c), some (.int d), some (.int e), some (.int (nI i)), some (.int a)]) dX15_feed_76 rfl (by decide) rfl ?_
        refine e_aload_n 79 dX15_feed_78 rfl rfl ?_
        refine e_get 82 (v := (.ref (F 34))) dX15_feed_79 rfl fl_X15_66_13 (stars_at _ 0 hL rfl) rfl ?_
        refine e_aload_n 83 dX15_feed_82 rfl rfl ?_
        refine e_get 86 (v := (.int (nI (tp.length + i)))) dX15_feed_83 rfl fl_X15_432_13 (stars_at _ 0 hL rfl) rfl ?_
        refine e_iload 88 dX15_feed_86 rfl rfl ?_
        refine e_bipush 90 (v := (nI 24)) dX15_feed_88 rfl (by decide) ?_
        refine e_bipush 92 (v := (nI 8)) dX15_feed_90 rfl (by decide) ?_
        refine e_iload 94 dX15_feed_92 rfl rfl ?_
        refine e_iconst 95 (v := (nI 4)) dX15_feed_94 rfl (by decide) ?_
        refine e_irem 96 (v := (nI (i % 4))) dX15_feed_95 rfl (by decide) (pk_rem (by omega) (by decide) (by decide)) ?_
        refine e_imul 97 (v := (nI (8 * (i % 4)))) dX15_feed_96 rfl (pk_mul 8 (i % 4)) ?_
        refine e_isub 98 (v := (nI (24 - (8 * (i % 4))))) dX15_feed_97 rfl (pk_sub (by omega)) ?_
        refine e_ishr 99 (v := (a >>> ((nI (24 - (8 * (i % 4)))) &&& 31))) dX15_feed_98 rfl rfl ?_
        refine e_sipush 102 (v := (nI 255)) dX15_feed_99 rfl (by decide) ?_
        refine e_iand 103 (v := (nI ((fdB a b c d e).getD i 0))) dX15_feed_102 rfl (by rw [fdB_at (show i < 20 by omega), if_pos (show i < 4 by omega)]; exact f4_sh (by omega)) ?_
        refine p_iastR 104 hL 1 (r := (tp ++ (fdB a b c d e).take i)) (r' := (tp ++ (fdB a b c d e).take (i + 1))) (k := (tp.length + i)) (v := ((fdB a b c d e).getD i 0)) (L' := [pt m (.inr (13, moF F (upN w 35 (tp.length + i)) bg)), iar (F 34) 400 (tp ++ (fdB a b c d e).take (i + 1)), X1, X2, X3, X4, X5, X6, X7, X8, X9, X10, X11, X12]) rfl dX15_feed_103 rfl (by omega) (by omega) (fd_iw (by rw [fdB_len]; omega) (by omega)) rfl (fun h hL => ?_)
        refine e_aload_n 105 dX15_feed_104 rfl rfl ?_
        refine e_dup 106 dX15_feed_105 rfl rfl ?_
        refine e_get 109 (v := (.int (nI (tp.length + i)))) dX15_feed_106 rfl fl_X15_432_13 (stars_at _ 0 hL rfl) rfl ?_
        refine e_iconst 110 (v := (nI 1)) dX15_feed_109 rfl (by decide) ?_
        refine e_iadd 111 (v := (nI ((tp.length + i) + 1))) dX15_feed_110 rfl (nI_add (tp.length + i) 1) ?_
        refine p_put 114 hL 0 (fs' := moF F (upN (upN w 35 (tp.length + i)) 35 ((tp.length + i) + 1)) bg) (L' := [pt m (.inr (13, moF F (upN (upN w 35 (tp.length + i)) 35 ((tp.length + i) + 1)) bg)), iar (F 34) 400 (tp ++ (fdB a b c d e).take (i + 1)), X1, X2, X3, X4, X5, X6, X7, X8, X9, X10, X11, X12]) rfl rfl dX15_feed_111 rfl fp_X15_432_13 (Or.inl rfl) (Nat.le_of_ble_eq_true rfl) rfl rfl rfl (fun h hL => ?_)
        refine e_iinc 117 (v := (nI (i + 1))) (ls' := [some (.ref m), some (.int a), some (.int b), some (.int c), some (.int d), some (.int e), some (.int (nI (i + 1))), some (.int a)]) dX15_feed_114 rfl rfl (nI_add i 1) (by decide) rfl ?_
        refine e_goto 23 dX15_feed_117 rfl ?_
        refine e_wk [some (.ref m), some (.int a), some (.int b), some (.int c), some (.int d), some (.int e), some (.int (nI (i + 1))), none] ⟨rfl, rfl, rfl, rfl, rfl, rfl, rfl, trivial⟩ ?_
        exact ih (i + 1) h (by omega) (by omega) hL
set_option maxRecDepth 20000 in
set_option maxHeartbeats 2000000 in
theorem k_X15_feed {m th : Nat} {tp an fr : List Nat} {D : List DS} {wv : Nat → Nat} {hs : List (Nat × Nat)} {v : Nat → Nat} {RQ : List RQE} {RS : List RSE} {SC : List SCE} {er : List Nat} {mb : Nat → Bool} {ck : Nat} {a b c d e : Int32} : CA mX15_feed [.ref m, .int a, .int b, .int c, .int d, .int e] [rfo m (tp, an, D, (fr, wv, hs), (v, RQ, RS, SC, er, mb), ck) th] (fun r K => r = some (.int (fdR (tp, an, D, (fr, wv, hs), (v, RQ, RS, SC, er, mb), ck))) ∧ K = [rfo m (fdG (tp, an, D, (fr, wv, hs), (v, RQ, RS, SC, er, mb), ck) a b c d e) 0]) 1 30 0 0 := by
  refine CA.mk 2 (ls := [some (.ref m), some (.int a), some (.int b), some (.int c), some (.int d), some (.int e), none, none]) rfl rfl (Nat.le_of_ble_eq_true rfl) rfl (fun h hL => ?_)
  obtain ⟨F, lt, lf, AN, PD, DL, hc, hL⟩ := rfo_o hL
  have hL : stars [pt m (.inr (13, moF F (mW (tp, an, D, (fr, wv, hs), (v, RQ, RS, SC, er, mb), ck) th AN.length lt lf) (decide (wv 5 ≠ 0)))), pt (F 1) (.inl (6, 6, .inr (.inr (.inr (.inr (adD DL)))))), lst rdve DL, iar (F 3) 300 AN, iar (F 5) 260 PD, rst (F 6) er (v 20) (mb 1) (mb 2), rrw (F 12) 16 3 (RQ.map rqE), rrw (F 13) 32 5 (RS.map rsE), rrw (F 14) 8 4 (SC.map scE), iar (F 21) 260 fr, iar (F 31) 64 (hs.map (·.1)), iar (F 32) 64 (hs.map (·.2)), iar (F 34) 400 tp, iar (F 36) 300 an] h := hL
  have ltp := (iar_V _ 12 hL rfl).le
  have lan := (iar_V _ 13 hL rfl).le
  have lfr := (iar_V _ 9 hL rfl).le
  refine e_aload_n 1 dX15_feed_0 rfl rfl ?_
  refine e_iconst 2 (v := (nI 0)) dX15_feed_1 rfl (by decide) ?_
  refine p_put 5 hL 0 (fs' := moF F (upN (mW (tp, an, D, (fr, wv, hs), (v, RQ, RS, SC, er, mb), ck) th AN.length lt lf) 0 0) (decide (wv 5 ≠ 0))) (L' := [pt m (.inr (13, moF F (upN (mW (tp, an, D, (fr, wv, hs), (v, RQ, RS, SC, er, mb), ck) th AN.length lt lf) 0 0) (decide (wv 5 ≠ 0)))), pt (F 1) (.inl (6, 6, .inr (.inr (.inr (.inr (adD DL)))))), lst rdve DL, iar (F 3) 300 AN, iar (F 5) 260 PD, rst (F 6) er (v 20) (mb 1) (mb 2), rrw (F 12) 16 3 (RQ.map rqE), rrw (F 13) 32 5 (RS.map rsE), rrw (F 14) 8 4 (SC.map scE), iar (F 21) 260 fr, iar (F 31) 64 (hs.map (·.1)), iar (F 32) 64 (hs.map (·.2)), iar (F 34) 400 tp, iar (F 36) 300 an]) rfl rfl dX15_feed_2 rfl fp_X15_73_13 (Or.inl rfl) (Nat.le_of_ble_eq_true rfl) rfl rfl rfl (fun h hL => ?_)
  refine e_aload_n 6 dX15_feed_5 rfl rfl ?_
  refine e_get 9 (v := (.int (nI tp.length))) dX15_feed_6 rfl fl_X15_432_13 (stars_at _ 0 hL rfl) rfl ?_
  refine e_bipush 11 (v := (nI 20)) dX15_feed_9 rfl (by decide) ?_
  refine e_iadd 12 (v := (nI (tp.length + 20))) dX15_feed_11 rfl (nI_add tp.length 20) ?_
  refine e_sipush 15 (v := (nI 400)) dX15_feed_12 rfl (by decide) ?_
  refine e_icmp_le 20 18 dX15_feed_15 rfl rfl (fun c15 => ?_) (fun c15 => ?_)
  · have k15 := j_le_t (a := (tp.length + 20)) (b := 400) (by omega) (by omega) c15
    refine e_iconst 21 (v := (nI 0)) dX15_feed_20 rfl (by decide) ?_
    refine e_istore 23 (ls' := [some (.ref m), some (.int a), some (.int b), some (.int c), some (.int d), some (.int e), some (.int (nI 0)), none]) dX15_feed_21 rfl (by decide) rfl ?_
    have hL2 : stars [pt m (.inr (13, moF F (upN (upN (mW (tp, an, D, (fr, wv, hs), (v, RQ, RS, SC, er, mb), ck) th AN.length lt lf) 0 0) 35 (tp.length + 0)) (decide (wv 5 ≠ 0)))), iar (F 34) 400 (tp ++ (fdB a b c d e).take 0), pt (F 1) (.inl (6, 6, .inr (.inr (.inr (.inr (adD DL)))))), lst rdve DL, iar (F 3) 300 AN, iar (F 5) 260 PD, rst (F 6) er (v 20) (mb 1) (mb 2), rrw (F 12) 16 3 (RQ.map rqE), rrw (F 13) 32 5 (RS.map rsE), rrw (F 14) 8 4 (SC.map scE), iar (F 21) 260 fr, iar (F 31) 64 (hs.map (·.1)), iar (F 32) 64 (hs.map (·.2)), iar (F 36) 300 an] h := by
      rw [List.take_zero, List.append_nil]
      exact stars_ixn hL 14 rfl [0, 12, 1, 2, 3, 4, 5, 6, 7, 8, 9, 10, 11, 13] (by decide) rfl
    refine l_rfeed (w := (upN (mW (tp, an, D, (fr, wv, hs), (v, RQ, RS, SC, er, mb), ck) th AN.length lt lf) 0 0)) (tp := tp) (by omega) (fun h hL => ?_) _ 0 h (Nat.lt_succ_self _) (by decide) hL2
    have eG : tp ++ (fdB a b c d e) = tp ++ f4 a ++ f4 b ++ f4 c ++ f4 d ++ f4 e := by simp only [fdB, List.append_assoc]
    have eL : (tp ++ (fdB a b c d e)).length = tp.length + 20 := by rw [List.length_append, fdB_len]
    have hFin : ∀ h9, stars [pt m (.inr (13, moF F (upN (upN (mW (tp, an, D, (fr, wv, hs), (v, RQ, RS, SC, er, mb), ck) th AN.length lt lf) 0 0) 35 (tp.length + 20)) (decide (wv 5 ≠ 0)))), iar (F 34) 400 (tp ++ (fdB a b c d e)), pt (F 1) (.inl (6, 6, .inr (.inr (.inr (.inr (adD DL)))))), lst rdve DL, iar (F 3) 300 AN, iar (F 5) 260 PD, rst (F 6) er (v 20) (mb 1) (mb 2), rrw (F 12) 16 3 (RQ.map rqE), rrw (F 13) 32 5 (RS.map rsE), rrw (F 14) 8 4 (SC.map scE), iar (F 21) 260 fr, iar (F 31) 64 (hs.map (·.1)), iar (F 32) 64 (hs.map (·.2)), iar (F 36) 300 an] h9 → stars [rfo m (tp ++ f4 a ++ f4 b ++ f4 c ++ f4 d ++ f4 e, an, D, (fr, wv, hs), (v, RQ, RS, SC, er, mb), ck) 0] h9 := fun h9 hL => by
      rw [← eL] at hL
      have hL : stars [pt m (.inr (13, moF F (upN (upN (mW (tp, an, D, (fr, wv, hs), (v, RQ, RS, SC, er, mb), ck) th AN.length lt lf) 0 0) 35 ((tp ++ (fdB a b c d e)).length)) (decide (wv 5 ≠ 0)))), iar (F 34) 400 (tp ++ (fdB a b c d e)), pt (F 1) (.inl (6, 6, .inr (.inr (.inr (.inr (adD DL)))))), lst rdve DL, iar (F 3) 300 AN, iar (F 5) 260 PD, rst (F 6) er (v 20) (mb 1) (mb 2), rrw (F 12) 16 3 (RQ.map rqE), rrw (F 13) 32 5 (RS.map rsE), rrw (F 14) 8 4 (SC.map scE), iar (F 21) 260 fr, iar (F 31) 64 (hs.map (·.1)), iar (F 32) 64 (hs.map (·.2)), iar (F 36) 300 an] h9 := hL
      rw [eG] at hL
      exact rfo_c (g := (tp ++ f4 a ++ f4 b ++ f4 c ++ f4 d ++ f4 e, an, D, (fr, wv, hs), (v, RQ, RS, SC, er, mb), ck)) (th := 0) (F := F) (lt := lt) (lf := lf) (AN := AN) (PD := PD) (DL := DL) (X := []) hc (stars_ixn hL 14 rfl [0, 2, 3, 4, 5, 6, 7, 8, 9, 10, 11, 12, 1, 13] (by decide) rfl)
    refine e_aload_n 121 dX15_feed_120 rfl rfl ?_
    refine e_get 124 (v := (.int (nI (tp.length + 20)))) dX15_feed_121 rfl fl_X15_432_13 (stars_at _ 0 hL rfl) rfl ?_
    exact e_iret dX15_feed_124 rfl (by omega) (by omega) (⟨_, ⟨by rw [fdR, if_pos (show tp.length + 20 ≤ 400 by omega)], by rw [fdG, if_pos (show tp.length + 20 ≤ 400 by omega)]⟩, hFin h hL⟩)
  · have k15 := j_le_f (a := (tp.length + 20)) (b := 400) (by omega) (by omega) c15
    refine e_iconst 19 (v := (-1)) dX15_feed_18 rfl (by decide) ?_
    exact e_iret dX15_feed_19 rfl (by omega) (by omega) (⟨_, ⟨by rw [fdR, if_neg (show ¬ tp.length + 20 ≤ 400 by omega)], by rw [fdG, if_neg (show ¬ tp.length + 20 ≤ 400 by omega)]⟩, rfo_c (g := (tp, an, D, (fr, wv, hs), (v, RQ, RS, SC, er, mb), ck)) (th := 0) (F := F) (lt := lt) (lf := lf) (AN := AN) (PD := PD) (DL := DL) (X := []) hc (stars_ixn hL 14 rfl [0, 1, 2, 3, 4, 5, 6, 7, 8, 9, 10, 11, 12, 13] (by decide) rfl)⟩)
