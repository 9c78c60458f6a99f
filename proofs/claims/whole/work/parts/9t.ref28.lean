/-! the reference: scans -/
/-- a request with the number x waits among the first i -/
def irN (E : List EN) (x i : Nat) : Bool := (E.take i).any (fun e => decide (e.2.getD 1 0 = x))
theorem irN_s {E : List EN} {x i : Nat} (hi : i < E.length) : irN E x (i + 1) = (irN E x i || decide ((rE2 E i).getD 1 0 = x)) := by
  have e : E.take (i + 1) = E.take i ++ [E[i]] := by rw [List.take_succ, List.getElem?_eq_getElem hi]; rfl
  simp only [irN, e, List.any_append, List.any_cons, List.any_nil, Bool.or_false]
  rw [show rE2 E i = E[i].2 by simp [rE2, List.getD, hi]]
theorem irN_R {RQ : List RQE} {x : Nat} : irN (RQ.map rqE) x (RQ.map rqE).length = inR RQ (some x) := by
  rw [irN, List.take_length, inR, List.any_map]
  congr 1
  funext e
  simp [rqE]
def inO (E : List EN) : Option Nat → Bool
  | none => false
  | some x => irN E x E.length
set_option maxRecDepth 20000 in
set_option maxHeartbeats 2000000 in
theorem ul_isInRow {m x : Nat} {F w : Nat → Nat} {bg : Bool} {E : List EN} {h : eH} (hm : h m = some (.inr (13, moF F w bg))) (hv : rrV (F 12) 16 3 E h) (hb : ∀ i, i < E.length → 2 ≤ (rE2 E i).length ∧ (rE2 E i).getD 1 0 < 2 ^ 31) (hx : x < 2 ^ 31) : ∀ (n : Nat) (i : Nat), E.length - i < n → i ≤ E.length → EE mX15_isInRow 0 0 0 0 (fun x9 h9 => x9 = some (.int (bI (irN E x E.length))) ∧ h9 = h) 4 [some (.ref m), some (.int (nI x)), some (.int (bI (irN E x i))), some (.int (nI i))] [] h 0 0 := by
  intro n
  induction n with
  | zero => intro i hlt hle; exact absurd hlt (by omega)
  | succ n ih =>
    intro i hlt hle
    have hv9 := hv
    obtain ⟨A, u0, u1, u2, u3, u4⟩ := hv9
    refine e_iload_n 5 dX15_isInRow_4 rfl rfl ?_
    refine e_aload_n 6 dX15_isInRow_5 rfl rfl ?_
    refine e_get 9 (v := (.ref (F 12))) dX15_isInRow_6 rfl fl_X15_44_13 hm rfl ?_
    refine e_get 12 (v := (.int (nI E.length))) dX15_isInRow_9 rfl fl_X15_298_11 u0 rfl ?_
    refine e_icmp_ge 46 15 dX15_isInRow_12 rfl rfl (fun c12 => ?_) (fun c12 => ?_)
    · have k12 := j_ge_t (a := i) (b := E.length) (by omega) (by omega) c12
      refine e_iload_n 47 dX15_isInRow_46 rfl rfl ?_
      exact e_zret dX15_isInRow_47 rfl (bI_01 _) (by omega) (by omega) (⟨by rw [show i = E.length by omega], rfl⟩)
    · have k12 := j_ge_f (a := i) (b := E.length) (by omega) (by omega) c12
      have hbi := hb i (by omega)
      refine e_iload_n 16 dX15_isInRow_15 rfl rfl ?_
      refine e_if_ne 34 19 dX15_isInRow_16 rfl rfl (fun c16 => ?_) (fun c16 => ?_)
      · have k16 := jb_ne_t c16
        refine e_iconst 35 (v := (nI 1)) dX15_isInRow_34 rfl (by decide) ?_
        refine e_goto 39 dX15_isInRow_35 rfl ?_
        refine e_top (v' := (bI (irN E x (i + 1)))) (by rw [show irN E x (i + 1) = true by (rw [irN_s (by omega)]; rw [k16]; rfl)]; rfl) ?_
        refine e_istore_n 40 (ls' := [some (.ref m), some (.int (nI x)), some (.int (bI (irN E x (i + 1)))), some (.int (nI i))]) dX15_isInRow_39 rfl (by decide) rfl ?_
        refine e_iinc 43 (v := (nI (i + 1))) (ls' := [some (.ref m), some (.int (nI x)), some (.int (bI (irN E x (i + 1)))), some (.int (nI (i + 1)))]) dX15_isInRow_40 rfl rfl (nI_add i 1) (by decide) rfl ?_
        refine e_goto 4 dX15_isInRow_43 rfl ?_
        refine e_wk [some (.ref m), some (.int (nI x)), some (.int (bI (irN E x (i + 1)))), some (.int (nI (i + 1)))] ⟨rfl, rfl, rfl, rfl, trivial⟩ ?_
        exact ih (i + 1) (by omega) (by omega)
      · have k16 := jb_ne_f c16
        refine e_aload_n 20 dX15_isInRow_19 rfl rfl ?_
        refine e_get 23 (v := (.ref (F 12))) dX15_isInRow_20 rfl fl_X15_44_13 hm rfl ?_
        refine e_get 26 (v := (.ref (A 2))) dX15_isInRow_23 rfl fl_X15_292_11 u0 rfl ?_
        refine e_iload_n 27 dX15_isInRow_26 rfl rfl ?_
        refine v_aald 28 u3 (k := i) dX15_isInRow_27 rfl (by omega) (by omega) (fun b27 y27 => ?_)
        refine e_iconst 29 (v := (nI 1)) dX15_isInRow_28 rfl (by decide) ?_
        refine v_iald 30 (r := (rE2 E i)) y27 (k := 1) (x := ((rE2 E i).getD 1 0)) dX15_isInRow_29 rfl (by omega) (by omega) rfl ?_
        refine e_iload_n 31 dX15_isInRow_30 rfl rfl ?_
        refine e_icmp_ne 38 34 dX15_isInRow_31 rfl rfl (fun c31 => ?_) (fun c31 => ?_)
        · have k31 := j_ne_t (a := ((rE2 E i).getD 1 0)) (b := x) (by omega) (by omega) c31
          refine e_iconst 39 (v := (nI 0)) dX15_isInRow_38 rfl (by decide) ?_
          refine e_top (v' := (bI (irN E x (i + 1)))) (by rw [show irN E x (i + 1) = false by (rw [irN_s (by omega)]; rw [decide_eq_false k31, k16]; rfl)]; rfl) ?_
          refine e_istore_n 40 (ls' := [some (.ref m), some (.int (nI x)), some (.int (bI (irN E x (i + 1)))), some (.int (nI i))]) dX15_isInRow_39 rfl (by decide) rfl ?_
          refine e_iinc 43 (v := (nI (i + 1))) (ls' := [some (.ref m), some (.int (nI x)), some (.int (bI (irN E x (i + 1)))), some (.int (nI (i + 1)))]) dX15_isInRow_40 rfl rfl (nI_add i 1) (by decide) rfl ?_
          refine e_goto 4 dX15_isInRow_43 rfl ?_
          refine e_wk [some (.ref m), some (.int (nI x)), some (.int (bI (irN E x (i + 1)))), some (.int (nI (i + 1)))] ⟨rfl, rfl, rfl, rfl, trivial⟩ ?_
          exact ih (i + 1) (by omega) (by omega)
        · have k31 := j_ne_f (a := ((rE2 E i).getD 1 0)) (b := x) (by omega) (by omega) c31
          refine e_iconst 35 (v := (nI 1)) dX15_isInRow_34 rfl (by decide) ?_
          refine e_goto 39 dX15_isInRow_35 rfl ?_
          refine e_top (v' := (bI (irN E x (i + 1)))) (by rw [show irN E x (i + 1) = true by (rw [irN_s (by omega)]; rw [decide_eq_true k31, Bool.or_true])]; rfl) ?_
          refine e_istore_n 40 (ls' := [some (.ref m), some (.int (nI x)), some (.int (bI (irN E x (i + 1)))), some (.int (nI i))]) dX15_isInRow_39 rfl (by decide) rfl ?_
          refine e_iinc 43 (v := (nI (i + 1))) (ls' := [some (.ref m), some (.int (nI x)), some (.int (bI (irN E x (i + 1)))), some (.int (nI (i + 1)))]) dX15_isInRow_40 rfl rfl (nI_add i 1) (by decide) rfl ?_
          refine e_goto 4 dX15_isInRow_43 rfl ?_
          refine e_wk [some (.ref m), some (.int (nI x)), some (.int (bI (irN E x (i + 1)))), some (.int (nI (i + 1)))] ⟨rfl, rfl, rfl, rfl, trivial⟩ ?_
          exact ih (i + 1) (by omega) (by omega)
set_option maxRecDepth 20000 in
set_option maxHeartbeats 2000000 in
theorem u_X15_isInRow {m x : Nat} {F w : Nat → Nat} {bg : Bool} {E : List EN} {h : eH} (hm : h m = some (.inr (13, moF F w bg))) (hv : rrV (F 12) 16 3 E h) (hb : ∀ i, i < E.length → 2 ≤ (rE2 E i).length ∧ (rE2 E i).getD 1 0 < 2 ^ 31) (hx : x < 2 ^ 31) : PC mX15_isInRow [.ref m, .int (nI x)] h (some (.int (bI (irN E x E.length)))) 0 0 := by
  refine PC.mk 2 (ls := [some (.ref m), some (.int (nI x)), none, none]) rfl rfl (Nat.le_of_ble_eq_true rfl) rfl ?_
  refine e_iconst 1 (v := (nI 0)) dX15_isInRow_0 rfl (by decide) ?_
  refine e_istore_n 2 (ls' := [some (.ref m), some (.int (nI x)), some (.int (nI 0)), none]) dX15_isInRow_1 rfl (by decide) rfl ?_
  refine e_iconst 3 (v := (nI 0)) dX15_isInRow_2 rfl (by decide) ?_
  refine e_istore_n 4 (ls' := [some (.ref m), some (.int (nI x)), some (.int (nI 0)), some (.int (nI 0))]) dX15_isInRow_3 rfl (by decide) rfl ?_
  refine e_lc (ls' := [some (.ref m), some (.int (nI x)), some (.int (bI (irN E x 0))), some (.int (nI 0))]) rfl ?_
  exact ul_isInRow hm hv hb hx _ 0 (Nat.lt_succ_self _) (Nat.zero_le _)
set_option maxRecDepth 20000 in
set_option maxHeartbeats 2000000 in
theorem k_X15_scan_n {m i nx c ad ev tm : Nat} {F w : Nat → Nat} {bg : Bool} {E G : List EN} (hi : i < G.length) (hG8 : G.length ≤ 8) (hE : E.length ≤ 16) (hp : (rE1 G i).length ≤ 253) (hG : rE2 G i = [ad, ev, tm, 4294967295]) (hc : c < 2 ^ 31) (ht : tm < 2 ^ 31) (hev : ev < 2 ^ 30) : CA mX15_scan [.ref m, .int (nI i)] [pt m (.inr (13, moF F (upN (upN w 18 c) 15 nx) bg)), rrw (F 12) 16 3 E, rrw (F 14) 8 4 G] (fun x9 K => x9 = none ∧ K = (if ¬ tm = c then [rmo m F (upN (upN w 18 c) 15 nx) bg, rrw (F 12) 16 3 E, rrw (F 14) 8 4 G] else if E.length = 16 ∨ False then [rmo m F (upN (upN w 18 c) 15 nx) bg, rrw (F 12) 16 3 E, rrw (F 14) 8 4 (G.set i (rE1 G i, [ad, ev, tm + ev, 4294967295]))] else [rmo m F (upN (upN w 18 c) 15 (nx + 1)) bg, rrw (F 12) 16 3 (E ++ [(rE1 G i, [ad, nx, 0])]), rrw (F 14) 8 4 (G.set i (rE1 G i, [ad, ev, tm + ev, nx]))])) 2 70 0 0 := by
  refine CA.mk 1 (ls := [some (.ref m), some (.int (nI i)), none]) rfl rfl (Nat.le_of_ble_eq_true rfl) rfl (fun h hL => ?_)
  have hL : stars [rrw (F 14) 8 4 G, pt m (.inr (13, moF F (upN (upN w 18 c) 15 nx) bg)), rrw (F 12) 16 3 E] h := stars_ixn hL 3 rfl [2, 0, 1] (by decide) rfl
  obtain ⟨A, hnA, hL⟩ := rrw_o hL
  have hL : stars [pt (F 14) (.inr (11, [.ref (A 0), .ref (A 1), .ref (A 2), .int (nI G.length)])), grd (A 0) 8 256 (rE1 G), iar (A 1) 8 (rZ G), grd (A 2) 8 4 (rE2 G), pt m (.inr (13, moF F (upN (upN w 18 c) 15 nx) bg)), rrw (F 12) 16 3 E] h := hL
  have hL : stars [grd (A 2) 8 4 (rE2 G), pt (F 14) (.inr (11, [.ref (A 0), .ref (A 1), .ref (A 2), .int (nI G.length)])), grd (A 0) 8 256 (rE1 G), iar (A 1) 8 (rZ G), pt m (.inr (13, moF F (upN (upN w 18 c) 15 nx) bg)), rrw (F 12) 16 3 E] h := stars_ixn hL 6 rfl [3, 0, 1, 2, 4, 5] (by decide) rfl
  obtain ⟨b0, R0, hL, hR0, hC0⟩ := grd_at (i := i) (by omega) hL
  have hL : stars [iar b0 4 ((rE2 G) i), R0, pt (F 14) (.inr (11, [.ref (A 0), .ref (A 1), .ref (A 2), .int (nI G.length)])), grd (A 0) 8 256 (rE1 G), iar (A 1) 8 (rZ G), pt m (.inr (13, moF F (upN (upN w 18 c) 15 nx) bg)), rrw (F 12) 16 3 E] h := hL
  rw [show ((rE2 G) i) = [ad, ev, tm, 4294967295] from hG] at hL
  have hL : stars [iar b0 4 ([ad, ev, tm, 4294967295]), R0, pt (F 14) (.inr (11, [.ref (A 0), .ref (A 1), .ref (A 2), .int (nI G.length)])), grd (A 0) 8 256 (rE1 G), iar (A 1) 8 (rZ G), pt m (.inr (13, moF F (upN (upN w 18 c) 15 nx) bg)), rrw (F 12) 16 3 E] h := hL
  have hL : stars [grd (A 0) 8 256 (rE1 G), iar b0 4 ([ad, ev, tm, 4294967295]), R0, pt (F 14) (.inr (11, [.ref (A 0), .ref (A 1), .ref (A 2), .int (nI G.length)])), iar (A 1) 8 (rZ G), pt m (.inr (13, moF F (upN (upN w 18 c) 15 nx) bg)), rrw (F 12) 16 3 E] h := stars_ixn hL 7 rfl [3, 0, 1, 2, 4, 5, 6] (by decide) rfl
  obtain ⟨b1, R1, hL, hR1, hC1⟩ := grd_at (i := i) (by omega) hL
  have hL : stars [iar b1 256 ((rE1 G) i), R1, iar b0 4 ([ad, ev, tm, 4294967295]), R0, pt (F 14) (.inr (11, [.ref (A 0), .ref (A 1), .ref (A 2), .int (nI G.length)])), iar (A 1) 8 (rZ G), pt m (.inr (13, moF F (upN (upN w 18 c) 15 nx) bg)), rrw (F 12) 16 3 E] h := hL
  refine e_aload_n 1 dX15_scan_0 rfl rfl ?_
  refine e_get 4 (v := (.ref (F 14))) dX15_scan_1 rfl fl_X15_51_13 (stars_at _ 6 hL rfl) rfl ?_
  refine e_get 7 dX15_scan_4 rfl fl_X15_292_11 (stars_at _ 4 hL rfl) rfl ?_
  refine e_iload_n 8 dX15_scan_7 rfl rfl ?_
  refine v_aaldP 9 (grP_V _ 3 hL rfl hR0) dX15_scan_8 rfl (by omega) (by omega) ?_
  refine e_astore_n 10 (ls' := [some (.ref m), some (.int (nI i)), some (.ref b0)]) dX15_scan_9 rfl (by decide) rfl ?_
  refine e_aload_n 11 dX15_scan_10 rfl rfl ?_
  refine e_iconst 12 (v := (nI 2)) dX15_scan_11 rfl (by decide) ?_
  refine v_iald 13 (r := [ad, ev, tm, 4294967295]) (iar_V _ 2 hL rfl) (k := 2) (x := tm) dX15_scan_12 rfl (Nat.le_of_ble_eq_true rfl) (by omega) rfl ?_
  refine e_aload_n 14 dX15_scan_13 rfl rfl ?_
  refine e_get 17 (v := (.int (nI c))) dX15_scan_14 rfl fl_X15_362_13 (stars_at _ 6 hL rfl) rfl ?_
  refine e_icmp_eq 21 20 dX15_scan_17 rfl rfl (fun c17 => ?_) (fun c17 => ?_)
  · have k17 := j_eq_t (a := tm) (b := c) (by omega) (by omega) c17
    refine e_aload_n 22 dX15_scan_21 rfl rfl ?_
    refine e_iconst 23 (v := (nI 2)) dX15_scan_22 rfl (by decide) ?_
    refine e_dup2 24 dX15_scan_23 rfl rfl rfl ?_
    refine v_iald 25 (r := [ad, ev, tm, 4294967295]) (iar_V _ 2 hL rfl) (k := 2) (x := tm) dX15_scan_24 rfl (Nat.le_of_ble_eq_true rfl) (by omega) rfl ?_
    refine e_aload_n 26 dX15_scan_25 rfl rfl ?_
    refine e_iconst 27 (v := (nI 1)) dX15_scan_26 rfl (by decide) ?_
    refine v_iald 28 (r := [ad, ev, tm, 4294967295]) (iar_V _ 2 hL rfl) (k := 1) (x := ev) dX15_scan_27 rfl (Nat.le_of_ble_eq_true rfl) (by omega) rfl ?_
    refine e_iadd 29 (v := (nI (tm + ev))) dX15_scan_28 rfl (nI_add tm ev) ?_
    refine p_iastR 30 hL 2 (r := [ad, ev, tm, 4294967295]) (r' := [ad, ev, tm + ev, 4294967295]) (k := 2) (v := (tm + ev)) (L' := [iar b1 256 ((rE1 G) i), R1, iar b0 4 ([ad, ev, tm + ev, 4294967295]), R0, pt (F 14) (.inr (11, [.ref (A 0), .ref (A 1), .ref (A 2), .int (nI G.length)])), iar (A 1) 8 (rZ G), pt m (.inr (13, moF F (upN (upN w 18 c) 15 nx) bg)), rrw (F 12) 16 3 E]) rfl dX15_scan_29 rfl (by omega) (by omega) (iw_set (r := [ad, ev, tm, 4294967295]) (k := 2) (v := (tm + ev)) (Nat.le_of_ble_eq_true rfl) (Nat.le_of_ble_eq_true rfl)) rfl (fun h hL => ?_)
    refine e_aload_n 31 dX15_scan_30 rfl rfl ?_
    refine e_iconst 32 (v := (nI 3)) dX15_scan_31 rfl (by decide) ?_
    refine v_iald 33 (r := [ad, ev, tm + ev, 4294967295]) (iar_V _ 2 hL rfl) (k := 3) (x := 4294967295) dX15_scan_32 rfl (Nat.le_of_ble_eq_true rfl) (by omega) rfl ?_
    refine e_if_lt 46 36 dX15_scan_33 rfl rfl (fun c33 => ?_) (fun c33 => absurd c33 (by decide))
    refine e_aload_n 47 dX15_scan_46 rfl rfl ?_
    refine e_get 50 (v := (.ref (F 12))) dX15_scan_47 rfl fl_X15_44_13 (stars_at _ 6 hL rfl) rfl ?_
    obtain ⟨A50, u50_0, u50_1, u50_2, u50_3, u50_4⟩ := rrw_V _ 7 hL rfl
    refine e_get 53 (v := (.int (nI E.length))) dX15_scan_50 rfl fl_X15_298_11 u50_0 rfl ?_
    refine e_bipush 55 (v := (nI 16)) dX15_scan_53 rfl (by decide) ?_
    refine e_icmp_ne 59 58 dX15_scan_55 rfl rfl (fun c55 => ?_) (fun c55 => ?_)
    · have k55 := j_ne_t (a := E.length) (b := 16) (by omega) (by omega) c55
      refine e_aload_n 60 dX15_scan_59 rfl rfl ?_
      refine e_iconst 61 (v := (nI 3)) dX15_scan_60 rfl (by decide) ?_
      refine e_aload_n 62 dX15_scan_61 rfl rfl ?_
      refine e_aload_n 63 dX15_scan_62 rfl rfl ?_
      refine e_iconst 64 (v := (nI 0)) dX15_scan_63 rfl (by decide) ?_
      refine v_iald 65 (r := [ad, ev, tm + ev, 4294967295]) (iar_V _ 2 hL rfl) (k := 0) (x := ad) dX15_scan_64 rfl (Nat.le_of_ble_eq_true rfl) (by omega) rfl ?_
      refine e_aload_n 66 dX15_scan_65 rfl rfl ?_
      refine e_get 69 (v := (.ref (F 14))) dX15_scan_66 rfl fl_X15_51_13 (stars_at _ 6 hL rfl) rfl ?_
      refine e_get 72 dX15_scan_69 rfl fl_X15_321_11 (stars_at _ 4 hL rfl) rfl ?_
      refine e_iload_n 73 dX15_scan_72 rfl rfl ?_
      refine v_aaldP 74 (grP_V _ 1 hL rfl hR1) dX15_scan_73 rfl (by omega) (by omega) ?_
      refine e_aload_n 75 dX15_scan_74 rfl rfl ?_
      refine e_get 78 (v := (.ref (F 14))) dX15_scan_75 rfl fl_X15_51_13 (stars_at _ 6 hL rfl) rfl ?_
      refine e_get 81 dX15_scan_78 rfl fl_X15_323_11 (stars_at _ 4 hL rfl) rfl ?_
      refine e_iload_n 82 dX15_scan_81 rfl rfl ?_
      refine v_iald 83 (r := (rZ G)) (iar_V _ 5 hL rfl) (k := i) (x := (rE1 G i).length) dX15_scan_82 rfl (by rw [rZ_len]; omega) (by omega) rZ_at ?_
      refine p_callV 86 hL [6, 7, 0, 1, 2, 3, 4, 5] 8 rfl (by decide) (L1 := [pt m (.inr (13, moF F (upN (upN w 18 c) 15 nx) bg)), rrw (F 12) 16 3 E, iar b1 256 ((rE1 G) i)]) (L2 := [R1, iar b0 4 ([ad, ev, tm + ev, 4294967295]), R0, pt (F 14) (.inr (11, [.ref (A 0), .ref (A 1), .ref (A 2), .int (nI G.length)])), iar (A 1) 8 (rZ G)]) rfl isO_pt 6 rfl dX15_scan_83 rfl cv_X15_368 (k_X15_newRequest (w := upN w 18 c) (nx := nx) (by omega) hp (Nat.le_refl _) (by decide)) rfl rfl (Nat.le_of_ble_eq_true rfl) ⟨by decide, by omega, by omega⟩ (fun r1 L1 h q hL => ?_)
      obtain ⟨rfl, rfl⟩ := q
      have hL : stars [pt m (.inr (13, moF F (upN (upN w 18 c) 15 (nx + 1)) bg)), rrw (F 12) 16 3 (E ++ [(pf (rE1 G i) 0 (rE1 G i).length, [ad, nx, 0])]), iar b1 256 ((rE1 G) i), R1, iar b0 4 ([ad, ev, tm + ev, 4294967295]), R0, pt (F 14) (.inr (11, [.ref (A 0), .ref (A 1), .ref (A 2), .int (nI G.length)])), iar (A 1) 8 (rZ G)] h := hL
      have hL : stars [iar b1 256 ((rE1 G) i), R1, iar b0 4 ([ad, ev, tm + ev, 4294967295]), R0, pt (F 14) (.inr (11, [.ref (A 0), .ref (A 1), .ref (A 2), .int (nI G.length)])), iar (A 1) 8 (rZ G), pt m (.inr (13, moF F (upN (upN w 18 c) 15 (nx + 1)) bg)), rrw (F 12) 16 3 (E ++ [(pf (rE1 G i) 0 (rE1 G i).length, [ad, nx, 0])])] h := stars_ixn hL 8 rfl [2, 3, 4, 5, 6, 7, 0, 1] (by decide) rfl
      refine p_iastR 87 hL 2 (r := [ad, ev, tm + ev, 4294967295]) (r' := [ad, ev, tm + ev, nx]) (k := 3) (v := nx) (L' := [iar b1 256 ((rE1 G) i), R1, iar b0 4 ([ad, ev, tm + ev, nx]), R0, pt (F 14) (.inr (11, [.ref (A 0), .ref (A 1), .ref (A 2), .int (nI G.length)])), iar (A 1) 8 (rZ G), pt m (.inr (13, moF F (upN (upN w 18 c) 15 (nx + 1)) bg)), rrw (F 12) 16 3 (E ++ [(pf (rE1 G i) 0 (rE1 G i).length, [ad, nx, 0])])]) rfl dX15_scan_86 rfl (by omega) (by omega) (iw_set (r := [ad, ev, tm + ev, 4294967295]) (k := 3) (v := nx) (Nat.le_of_ble_eq_true rfl) (Nat.le_of_ble_eq_true rfl)) rfl (fun h hL => ?_)
      have hL : stars [grd (A 0) 8 256 (upL (rE1 G) i (rE1 G i)), iar b0 4 ([ad, ev, tm + ev, nx]), R0, pt (F 14) (.inr (11, [.ref (A 0), .ref (A 1), .ref (A 2), .int (nI G.length)])), iar (A 1) 8 (rZ G), pt m (.inr (13, moF F (upN (upN w 18 c) 15 (nx + 1)) bg)), rrw (F 12) 16 3 (E ++ [(pf (rE1 G i) 0 (rE1 G i).length, [ad, nx, 0])])] h := hC1 _ _ _ hL
      rw [upL_self] at hL
      have hL : stars [grd (A 0) 8 256 (rE1 G), iar b0 4 ([ad, ev, tm + ev, nx]), R0, pt (F 14) (.inr (11, [.ref (A 0), .ref (A 1), .ref (A 2), .int (nI G.length)])), iar (A 1) 8 (rZ G), pt m (.inr (13, moF F (upN (upN w 18 c) 15 (nx + 1)) bg)), rrw (F 12) 16 3 (E ++ [(pf (rE1 G i) 0 (rE1 G i).length, [ad, nx, 0])])] h := hL
      have hL : stars [iar b0 4 ([ad, ev, tm + ev, nx]), R0, grd (A 0) 8 256 (rE1 G), pt (F 14) (.inr (11, [.ref (A 0), .ref (A 1), .ref (A 2), .int (nI G.length)])), iar (A 1) 8 (rZ G), pt m (.inr (13, moF F (upN (upN w 18 c) 15 (nx + 1)) bg)), rrw (F 12) 16 3 (E ++ [(pf (rE1 G i) 0 (rE1 G i).length, [ad, nx, 0])])] h := stars_ixn hL 7 rfl [1, 2, 0, 3, 4, 5, 6] (by decide) rfl
      have hL : stars [grd (A 2) 8 4 (upL (rE2 G) i ([ad, ev, tm + ev, nx])), grd (A 0) 8 256 (rE1 G), pt (F 14) (.inr (11, [.ref (A 0), .ref (A 1), .ref (A 2), .int (nI G.length)])), iar (A 1) 8 (rZ G), pt m (.inr (13, moF F (upN (upN w 18 c) 15 (nx + 1)) bg)), rrw (F 12) 16 3 (E ++ [(pf (rE1 G i) 0 (rE1 G i).length, [ad, nx, 0])])] h := hC0 _ _ _ hL
      have hL : stars [pt (F 14) (.inr (11, [.ref (A 0), .ref (A 1), .ref (A 2), .int (nI G.length)])), grd (A 0) 8 256 (rE1 G), iar (A 1) 8 (rZ G), grd (A 2) 8 4 (upL (rE2 G) i ([ad, ev, tm + ev, nx])), pt m (.inr (13, moF F (upN (upN w 18 c) 15 (nx + 1)) bg)), rrw (F 12) 16 3 (E ++ [(pf (rE1 G i) 0 (rE1 G i).length, [ad, nx, 0])])] h := stars_ixn hL 6 rfl [2, 1, 3, 0, 4, 5] (by decide) rfl
      have hL : stars [rrw (F 14) 8 4 (G.set i (rE1 G i, [ad, ev, tm + ev, nx])), pt m (.inr (13, moF F (upN (upN w 18 c) 15 (nx + 1)) bg)), rrw (F 12) 16 3 (E ++ [(pf (rE1 G i) 0 (rE1 G i).length, [ad, nx, 0])])] h := rrw_st hnA hi hL
      have hL : stars [pt m (.inr (13, moF F (upN (upN w 18 c) 15 (nx + 1)) bg)), rrw (F 12) 16 3 (E ++ [(pf (rE1 G i) 0 (rE1 G i).length, [ad, nx, 0])]), rrw (F 14) 8 4 (G.set i (rE1 G i, [ad, ev, tm + ev, nx]))] h := stars_ixn hL 3 rfl [1, 2, 0] (by decide) rfl
      exact e_vret dX15_scan_87 rfl (by omega) (by omega) (⟨_, ⟨rfl, rfl⟩, by rw [if_neg (fun z => z k17), if_neg (fun z => z.elim k55 id)]; rw [pf_all] at hL; exact hL⟩)
    · have k55 := j_ne_f (a := E.length) (b := 16) (by omega) (by omega) c55
      have hL : stars [grd (A 0) 8 256 (upL (rE1 G) i (rE1 G i)), iar b0 4 ([ad, ev, tm + ev, 4294967295]), R0, pt (F 14) (.inr (11, [.ref (A 0), .ref (A 1), .ref (A 2), .int (nI G.length)])), iar (A 1) 8 (rZ G), pt m (.inr (13, moF F (upN (upN w 18 c) 15 nx) bg)), rrw (F 12) 16 3 E] h := hC1 _ _ _ hL
      rw [upL_self] at hL
      have hL : stars [grd (A 0) 8 256 (rE1 G), iar b0 4 ([ad, ev, tm + ev, 4294967295]), R0, pt (F 14) (.inr (11, [.ref (A 0), .ref (A 1), .ref (A 2), .int (nI G.length)])), iar (A 1) 8 (rZ G), pt m (.inr (13, moF F (upN (upN w 18 c) 15 nx) bg)), rrw (F 12) 16 3 E] h := hL
      have hL : stars [iar b0 4 ([ad, ev, tm + ev, 4294967295]), R0, grd (A 0) 8 256 (rE1 G), pt (F 14) (.inr (11, [.ref (A 0), .ref (A 1), .ref (A 2), .int (nI G.length)])), iar (A 1) 8 (rZ G), pt m (.inr (13, moF F (upN (upN w 18 c) 15 nx) bg)), rrw (F 12) 16 3 E] h := stars_ixn hL 7 rfl [1, 2, 0, 3, 4, 5, 6] (by decide) rfl
      have hL : stars [grd (A 2) 8 4 (upL (rE2 G) i ([ad, ev, tm + ev, 4294967295])), grd (A 0) 8 256 (rE1 G), pt (F 14) (.inr (11, [.ref (A 0), .ref (A 1), .ref (A 2), .int (nI G.length)])), iar (A 1) 8 (rZ G), pt m (.inr (13, moF F (upN (upN w 18 c) 15 nx) bg)), rrw (F 12) 16 3 E] h := hC0 _ _ _ hL
      have hL : stars [pt (F 14) (.inr (11, [.ref (A 0), .ref (A 1), .ref (A 2), .int (nI G.length)])), grd (A 0) 8 256 (rE1 G), iar (A 1) 8 (rZ G), grd (A 2) 8 4 (upL (rE2 G) i ([ad, ev, tm + ev, 4294967295])), pt m (.inr (13, moF F (upN (upN w 18 c) 15 nx) bg)), rrw (F 12) 16 3 E] h := stars_ixn hL 6 rfl [2, 1, 3, 0, 4, 5] (by decide) rfl
      have hL : stars [rrw (F 14) 8 4 (G.set i (rE1 G i, [ad, ev, tm + ev, 4294967295])), pt m (.inr (13, moF F (upN (upN w 18 c) 15 nx) bg)), rrw (F 12) 16 3 E] h := rrw_st hnA hi hL
      have hL : stars [pt m (.inr (13, moF F (upN (upN w 18 c) 15 nx) bg)), rrw (F 12) 16 3 E, rrw (F 14) 8 4 (G.set i (rE1 G i, [ad, ev, tm + ev, 4294967295]))] h := stars_ixn hL 3 rfl [1, 2, 0] (by decide) rfl
      exact e_vret dX15_scan_58 rfl (by omega) (by omega) (⟨_, ⟨rfl, rfl⟩, by rw [if_neg (fun z => z k17), if_pos (Or.inl k55)]; exact hL⟩)
  · have k17 := j_eq_f (a := tm) (b := c) (by omega) (by omega) c17
    have hL : stars [grd (A 0) 8 256 (upL (rE1 G) i (rE1 G i)), iar b0 4 ([ad, ev, tm, 4294967295]), R0, pt (F 14) (.inr (11, [.ref (A 0), .ref (A 1), .ref (A 2), .int (nI G.length)])), iar (A 1) 8 (rZ G), pt m (.inr (13, moF F (upN (upN w 18 c) 15 nx) bg)), rrw (F 12) 16 3 E] h := hC1 _ _ _ hL
    rw [upL_self] at hL
    have hL : stars [grd (A 0) 8 256 (rE1 G), iar b0 4 ([ad, ev, tm, 4294967295]), R0, pt (F 14) (.inr (11, [.ref (A 0), .ref (A 1), .ref (A 2), .int (nI G.length)])), iar (A 1) 8 (rZ G), pt m (.inr (13, moF F (upN (upN w 18 c) 15 nx) bg)), rrw (F 12) 16 3 E] h := hL
    have hL : stars [iar b0 4 ([ad, ev, tm, 4294967295]), R0, grd (A 0) 8 256 (rE1 G), pt (F 14) (.inr (11, [.ref (A 0), .ref (A 1), .ref (A 2), .int (nI G.length)])), iar (A 1) 8 (rZ G), pt m (.inr (13, moF F (upN (upN w 18 c) 15 nx) bg)), rrw (F 12) 16 3 E] h := stars_ixn hL 7 rfl [1, 2, 0, 3, 4, 5, 6] (by decide) rfl
    have hL : stars [grd (A 2) 8 4 (upL (rE2 G) i ([ad, ev, tm, 4294967295])), grd (A 0) 8 256 (rE1 G), pt (F 14) (.inr (11, [.ref (A 0), .ref (A 1), .ref (A 2), .int (nI G.length)])), iar (A 1) 8 (rZ G), pt m (.inr (13, moF F (upN (upN w 18 c) 15 nx) bg)), rrw (F 12) 16 3 E] h := hC0 _ _ _ hL
    have hL : stars [pt (F 14) (.inr (11, [.ref (A 0), .ref (A 1), .ref (A 2), .int (nI G.length)])), grd (A 0) 8 256 (rE1 G), iar (A 1) 8 (rZ G), grd (A 2) 8 4 (upL (rE2 G) i ([ad, ev, tm, 4294967295])), pt m (.inr (13, moF F (upN (upN w 18 c) 15 nx) bg)), rrw (F 12) 16 3 E] h := stars_ixn hL 6 rfl [2, 1, 3, 0, 4, 5] (by decide) rfl
    have hL : stars [rrw (F 14) 8 4 G, pt m (.inr (13, moF F (upN (upN w 18 c) 15 nx) bg)), rrw (F 12) 16 3 E] h := rrw_cS hnA hG hL
    have hL : stars [pt m (.inr (13, moF F (upN (upN w 18 c) 15 nx) bg)), rrw (F 12) 16 3 E, rrw (F 14) 8 4 G] h := stars_ixn hL 3 rfl [1, 2, 0] (by decide) rfl
    exact e_vret dX15_scan_20 rfl (by omega) (by omega) (⟨_, ⟨rfl, rfl⟩, by rw [if_pos k17]; exact hL⟩)
set_option maxRecDepth 20000 in
set_option maxHeartbeats 2000000 in
theorem k_X15_scan_s {m i nx c ad ev tm fo : Nat} {F w : Nat → Nat} {bg : Bool} {E G : List EN} (hi : i < G.length) (hG8 : G.length ≤ 8) (hE : E.length ≤ 16) (hp : (rE1 G i).length ≤ 253) (hG : rE2 G i = [ad, ev, tm, fo]) (hc : c < 2 ^ 31) (ht : tm < 2 ^ 31) (hev : ev < 2 ^ 30) (hfo : fo < 2 ^ 31) (hb : ∀ i, i < E.length → 2 ≤ (rE2 E i).length ∧ (rE2 E i).getD 1 0 < 2 ^ 31) : CA mX15_scan [.ref m, .int (nI i)] [pt m (.inr (13, moF F (upN (upN w 18 c) 15 nx) bg)), rrw (F 12) 16 3 E, rrw (F 14) 8 4 G] (fun x9 K => x9 = none ∧ K = (if ¬ tm = c then [rmo m F (upN (upN w 18 c) 15 nx) bg, rrw (F 12) 16 3 E, rrw (F 14) 8 4 G] else if E.length = 16 ∨ irN E fo E.length = true then [rmo m F (upN (upN w 18 c) 15 nx) bg, rrw (F 12) 16 3 E, rrw (F 14) 8 4 (G.set i (rE1 G i, [ad, ev, tm + ev, fo]))] else [rmo m F (upN (upN w 18 c) 15 (nx + 1)) bg, rrw (F 12) 16 3 (E ++ [(rE1 G i, [ad, nx, 0])]), rrw (F 14) 8 4 (G.set i (rE1 G i, [ad, ev, tm + ev, nx]))])) 2 70 0 0 := by
  refine CA.mk 1 (ls := [some (.ref m), some (.int (nI i)), none]) rfl rfl (Nat.le_of_ble_eq_true rfl) rfl (fun h hL => ?_)
  have hL : stars [rrw (F 14) 8 4 G, pt m (.inr (13, moF F (upN (upN w 18 c) 15 nx) bg)), rrw (F 12) 16 3 E] h := stars_ixn hL 3 rfl [2, 0, 1] (by decide) rfl
  obtain ⟨A, hnA, hL⟩ := rrw_o hL
  have hL : stars [pt (F 14) (.inr (11, [.ref (A 0), .ref (A 1), .ref (A 2), .int (nI G.length)])), grd (A 0) 8 256 (rE1 G), iar (A 1) 8 (rZ G), grd (A 2) 8 4 (rE2 G), pt m (.inr (13, moF F (upN (upN w 18 c) 15 nx) bg)), rrw (F 12) 16 3 E] h := hL
  have hL : stars [grd (A 2) 8 4 (rE2 G), pt (F 14) (.inr (11, [.ref (A 0), .ref (A 1), .ref (A 2), .int (nI G.length)])), grd (A 0) 8 256 (rE1 G), iar (A 1) 8 (rZ G), pt m (.inr (13, moF F (upN (upN w 18 c) 15 nx) bg)), rrw (F 12) 16 3 E] h := stars_ixn hL 6 rfl [3, 0, 1, 2, 4, 5] (by decide) rfl
  obtain ⟨b0, R0, hL, hR0, hC0⟩ := grd_at (i := i) (by omega) hL
  have hL : stars [iar b0 4 ((rE2 G) i), R0, pt (F 14) (.inr (11, [.ref (A 0), .ref (A 1), .ref (A 2), .int (nI G.length)])), grd (A 0) 8 256 (rE1 G), iar (A 1) 8 (rZ G), pt m (.inr (13, moF F (upN (upN w 18 c) 15 nx) bg)), rrw (F 12) 16 3 E] h := hL
  rw [show ((rE2 G) i) = [ad, ev, tm, fo] from hG] at hL
  have hL : stars [iar b0 4 ([ad, ev, tm, fo]), R0, pt (F 14) (.inr (11, [.ref (A 0), .ref (A 1), .ref (A 2), .int (nI G.length)])), grd (A 0) 8 256 (rE1 G), iar (A 1) 8 (rZ G), pt m (.inr (13, moF F (upN (upN w 18 c) 15 nx) bg)), rrw (F 12) 16 3 E] h := hL
  have hL : stars [grd (A 0) 8 256 (rE1 G), iar b0 4 ([ad, ev, tm, fo]), R0, pt (F 14) (.inr (11, [.ref (A 0), .ref (A 1), .ref (A 2), .int (nI G.length)])), iar (A 1) 8 (rZ G), pt m (.inr (13, moF F (upN (upN w 18 c) 15 nx) bg)), rrw (F 12) 16 3 E] h := stars_ixn hL 7 rfl [3, 0, 1, 2, 4, 5, 6] (by decide) rfl
  obtain ⟨b1, R1, hL, hR1, hC1⟩ := grd_at (i := i) (by omega) hL
  have hL : stars [iar b1 256 ((rE1 G) i), R1, iar b0 4 ([ad, ev, tm, fo]), R0, pt (F 14) (.inr (11, [.ref (A 0), .ref (A 1), .ref (A 2), .int (nI G.length)])), iar (A 1) 8 (rZ G), pt m (.inr (13, moF F (upN (upN w 18 c) 15 nx) bg)), rrw (F 12) 16 3 E] h := hL
  refine e_aload_n 1 dX15_scan_0 rfl rfl ?_
  refine e_get 4 (v := (.ref (F 14))) dX15_scan_1 rfl fl_X15_51_13 (stars_at _ 6 hL rfl) rfl ?_
  refine e_get 7 dX15_scan_4 rfl fl_X15_292_11 (stars_at _ 4 hL rfl) rfl ?_
  refine e_iload_n 8 dX15_scan_7 rfl rfl ?_
  refine v_aaldP 9 (grP_V _ 3 hL rfl hR0) dX15_scan_8 rfl (by omega) (by omega) ?_
  refine e_astore_n 10 (ls' := [some (.ref m), some (.int (nI i)), some (.ref b0)]) dX15_scan_9 rfl (by decide) rfl ?_
  refine e_aload_n 11 dX15_scan_10 rfl rfl ?_
  refine e_iconst 12 (v := (nI 2)) dX15_scan_11 rfl (by decide) ?_
  refine v_iald 13 (r := [ad, ev, tm, fo]) (iar_V _ 2 hL rfl) (k := 2) (x := tm) dX15_scan_12 rfl (Nat.le_of_ble_eq_true rfl) (by omega) rfl ?_
  refine e_aload_n 14 dX15_scan_13 rfl rfl ?_
  refine e_get 17 (v := (.int (nI c))) dX15_scan_14 rfl fl_X15_362_13 (stars_at _ 6 hL rfl) rfl ?_
  refine e_icmp_eq 21 20 dX15_scan_17 rfl rfl (fun c17 => ?_) (fun c17 => ?_)
  · have k17 := j_eq_t (a := tm) (b := c) (by omega) (by omega) c17
    refine e_aload_n 22 dX15_scan_21 rfl rfl ?_
    refine e_iconst 23 (v := (nI 2)) dX15_scan_22 rfl (by decide) ?_
    refine e_dup2 24 dX15_scan_23 rfl rfl rfl ?_
    refine v_iald 25 (r := [ad, ev, tm, fo]) (iar_V _ 2 hL rfl) (k := 2) (x := tm) dX15_scan_24 rfl (Nat.le_of_ble_eq_true rfl) (by omega) rfl ?_
    refine e_aload_n 26 dX15_scan_25 rfl rfl ?_
    refine e_iconst 27 (v := (nI 1)) dX15_scan_26 rfl (by decide) ?_
    refine v_iald 28 (r := [ad, ev, tm, fo]) (iar_V _ 2 hL rfl) (k := 1) (x := ev) dX15_scan_27 rfl (Nat.le_of_ble_eq_true rfl) (by omega) rfl ?_
    refine e_iadd 29 (v := (nI (tm + ev))) dX15_scan_28 rfl (nI_add tm ev) ?_
    refine p_iastR 30 hL 2 (r := [ad, ev, tm, fo]) (r' := [ad, ev, tm + ev, fo]) (k := 2) (v := (tm + ev)) (L' := [iar b1 256 ((rE1 G) i), R1, iar b0 4 ([ad, ev, tm + ev, fo]), R0, pt (F 14) (.inr (11, [.ref (A 0), .ref (A 1), .ref (A 2), .int (nI G.length)])), iar (A 1) 8 (rZ G), pt m (.inr (13, moF F (upN (upN w 18 c) 15 nx) bg)), rrw (F 12) 16 3 E]) rfl dX15_scan_29 rfl (by omega) (by omega) (iw_set (r := [ad, ev, tm, fo]) (k := 2) (v := (tm + ev)) (Nat.le_of_ble_eq_true rfl) (Nat.le_of_ble_eq_true rfl)) rfl (fun h hL => ?_)
    refine e_aload_n 31 dX15_scan_30 rfl rfl ?_
    refine e_iconst 32 (v := (nI 3)) dX15_scan_31 rfl (by decide) ?_
    refine v_iald 33 (r := [ad, ev, tm + ev, fo]) (iar_V _ 2 hL rfl) (k := 3) (x := fo) dX15_scan_32 rfl (Nat.le_of_ble_eq_true rfl) (by omega) rfl ?_
    refine e_if_lt 46 36 dX15_scan_33 rfl rfl (fun c33 => absurd c33 (nI_pos (by omega))) (fun c33 => ?_)
    refine e_aload_n 37 dX15_scan_36 rfl rfl ?_
    refine e_aload_n 38 dX15_scan_37 rfl rfl ?_
    refine e_iconst 39 (v := (nI 3)) dX15_scan_38 rfl (by decide) ?_
    refine v_iald 40 (r := [ad, ev, tm + ev, fo]) (iar_V _ 2 hL rfl) (k := 3) (x := fo) dX15_scan_39 rfl (Nat.le_of_ble_eq_true rfl) (by omega) rfl ?_
    refine u_callV 43 dX15_scan_40 rfl cv_X15_365 (stars_at _ 6 hL rfl) (u_X15_isInRow (stars_at _ 6 hL rfl) (rrw_V _ 7 hL rfl) hb hfo) rfl rfl (Nat.le_of_ble_eq_true rfl) (by decide) ⟨by omega, by omega⟩ ?_
    refine e_if_ne 58 46 dX15_scan_43 rfl rfl (fun c43 => ?_) (fun c43 => ?_)
    · have k43 := jb_ne_t c43
      have hL : stars [grd (A 0) 8 256 (upL (rE1 G) i (rE1 G i)), iar b0 4 ([ad, ev, tm + ev, fo]), R0, pt (F 14) (.inr (11, [.ref (A 0), .ref (A 1), .ref (A 2), .int (nI G.length)])), iar (A 1) 8 (rZ G), pt m (.inr (13, moF F (upN (upN w 18 c) 15 nx) bg)), rrw (F 12) 16 3 E] h := hC1 _ _ _ hL
      rw [upL_self] at hL
      have hL : stars [grd (A 0) 8 256 (rE1 G), iar b0 4 ([ad, ev, tm + ev, fo]), R0, pt (F 14) (.inr (11, [.ref (A 0), .ref (A 1), .ref (A 2), .int (nI G.length)])), iar (A 1) 8 (rZ G), pt m (.inr (13, moF F (upN (upN w 18 c) 15 nx) bg)), rrw (F 12) 16 3 E] h := hL
      have hL : stars [iar b0 4 ([ad, ev, tm + ev, fo]), R0, grd (A 0) 8 256 (rE1 G), pt (F 14) (.inr (11, [.ref (A 0), .ref (A 1), .ref (A 2), .int (nI G.length)])), iar (A 1) 8 (rZ G), pt m (.inr (13, moF F (upN (upN w 18 c) 15 nx) bg)), rrw (F 12) 16 3 E] h := stars_ixn hL 7 rfl [1, 2, 0, 3, 4, 5, 6] (by decide) rfl
      have hL : stars [grd (A 2) 8 4 (upL (rE2 G) i ([ad, ev, tm + ev, fo])), grd (A 0) 8 256 (rE1 G), pt (F 14) (.inr (11, [.ref (A 0), .ref (A 1), .ref (A 2), .int (nI G.length)])), iar (A 1) 8 (rZ G), pt m (.inr (13, moF F (upN (upN w 18 c) 15 nx) bg)), rrw (F 12) 16 3 E] h := hC0 _ _ _ hL
      have hL : stars [pt (F 14) (.inr (11, [.ref (A 0), .ref (A 1), .ref (A 2), .int (nI G.length)])), grd (A 0) 8 256 (rE1 G), iar (A 1) 8 (rZ G), grd (A 2) 8 4 (upL (rE2 G) i ([ad, ev, tm + ev, fo])), pt m (.inr (13, moF F (upN (upN w 18 c) 15 nx) bg)), rrw (F 12) 16 3 E] h := stars_ixn hL 6 rfl [2, 1, 3, 0, 4, 5] (by decide) rfl
      have hL : stars [rrw (F 14) 8 4 (G.set i (rE1 G i, [ad, ev, tm + ev, fo])), pt m (.inr (13, moF F (upN (upN w 18 c) 15 nx) bg)), rrw (F 12) 16 3 E] h := rrw_st hnA hi hL
      have hL : stars [pt m (.inr (13, moF F (upN (upN w 18 c) 15 nx) bg)), rrw (F 12) 16 3 E, rrw (F 14) 8 4 (G.set i (rE1 G i, [ad, ev, tm + ev, fo]))] h := stars_ixn hL 3 rfl [1, 2, 0] (by decide) rfl
      exact e_vret dX15_scan_58 rfl (by omega) (by omega) (⟨_, ⟨rfl, rfl⟩, by rw [if_neg (fun z => z k17), if_pos (Or.inr k43)]; exact hL⟩)
    · have k43 := jb_ne_f c43
      refine e_aload_n 47 dX15_scan_46 rfl rfl ?_
      refine e_get 50 (v := (.ref (F 12))) dX15_scan_47 rfl fl_X15_44_13 (stars_at _ 6 hL rfl) rfl ?_
      obtain ⟨A50, u50_0, u50_1, u50_2, u50_3, u50_4⟩ := rrw_V _ 7 hL rfl
      refine e_get 53 (v := (.int (nI E.length))) dX15_scan_50 rfl fl_X15_298_11 u50_0 rfl ?_
      refine e_bipush 55 (v := (nI 16)) dX15_scan_53 rfl (by decide) ?_
      refine e_icmp_ne 59 58 dX15_scan_55 rfl rfl (fun c55 => ?_) (fun c55 => ?_)
      · have k55 := j_ne_t (a := E.length) (b := 16) (by omega) (by omega) c55
        refine e_aload_n 60 dX15_scan_59 rfl rfl ?_
        refine e_iconst 61 (v := (nI 3)) dX15_scan_60 rfl (by decide) ?_
        refine e_aload_n 62 dX15_scan_61 rfl rfl ?_
        refine e_aload_n 63 dX15_scan_62 rfl rfl ?_
        refine e_iconst 64 (v := (nI 0)) dX15_scan_63 rfl (by decide) ?_
        refine v_iald 65 (r := [ad, ev, tm + ev, fo]) (iar_V _ 2 hL rfl) (k := 0) (x := ad) dX15_scan_64 rfl (Nat.le_of_ble_eq_true rfl) (by omega) rfl ?_
        refine e_aload_n 66 dX15_scan_65 rfl rfl ?_
        refine e_get 69 (v := (.ref (F 14))) dX15_scan_66 rfl fl_X15_51_13 (stars_at _ 6 hL rfl) rfl ?_
        refine e_get 72 dX15_scan_69 rfl fl_X15_321_11 (stars_at _ 4 hL rfl) rfl ?_
        refine e_iload_n 73 dX15_scan_72 rfl rfl ?_
        refine v_aaldP 74 (grP_V _ 1 hL rfl hR1) dX15_scan_73 rfl (by omega) (by omega) ?_
        refine e_aload_n 75 dX15_scan_74 rfl rfl ?_
        refine e_get 78 (v := (.ref (F 14))) dX15_scan_75 rfl fl_X15_51_13 (stars_at _ 6 hL rfl) rfl ?_
        refine e_get 81 dX15_scan_78 rfl fl_X15_323_11 (stars_at _ 4 hL rfl) rfl ?_
        refine e_iload_n 82 dX15_scan_81 rfl rfl ?_
        refine v_iald 83 (r := (rZ G)) (iar_V _ 5 hL rfl) (k := i) (x := (rE1 G i).length) dX15_scan_82 rfl (by rw [rZ_len]; omega) (by omega) rZ_at ?_
        refine p_callV 86 hL [6, 7, 0, 1, 2, 3, 4, 5] 8 rfl (by decide) (L1 := [pt m (.inr (13, moF F (upN (upN w 18 c) 15 nx) bg)), rrw (F 12) 16 3 E, iar b1 256 ((rE1 G) i)]) (L2 := [R1, iar b0 4 ([ad, ev, tm + ev, fo]), R0, pt (F 14) (.inr (11, [.ref (A 0), .ref (A 1), .ref (A 2), .int (nI G.length)])), iar (A 1) 8 (rZ G)]) rfl isO_pt 6 rfl dX15_scan_83 rfl cv_X15_368 (k_X15_newRequest (w := upN w 18 c) (nx := nx) (by omega) hp (Nat.le_refl _) (by decide)) rfl rfl (Nat.le_of_ble_eq_true rfl) ⟨by decide, by omega, by omega⟩ (fun r1 L1 h q hL => ?_)
        obtain ⟨rfl, rfl⟩ := q
        have hL : stars [pt m (.inr (13, moF F (upN (upN w 18 c) 15 (nx + 1)) bg)), rrw (F 12) 16 3 (E ++ [(pf (rE1 G i) 0 (rE1 G i).length, [ad, nx, 0])]), iar b1 256 ((rE1 G) i), R1, iar b0 4 ([ad, ev, tm + ev, fo]), R0, pt (F 14) (.inr (11, [.ref (A 0), .ref (A 1), .ref (A 2), .int (nI G.length)])), iar (A 1) 8 (rZ G)] h := hL
        have hL : stars [iar b1 256 ((rE1 G) i), R1, iar b0 4 ([ad, ev, tm + ev, fo]), R0, pt (F 14) (.inr (11, [.ref (A 0), .ref (A 1), .ref (A 2), .int (nI G.length)])), iar (A 1) 8 (rZ G), pt m (.inr (13, moF F (upN (upN w 18 c) 15 (nx + 1)) bg)), rrw (F 12) 16 3 (E ++ [(pf (rE1 G i) 0 (rE1 G i).length, [ad, nx, 0])])] h := stars_ixn hL 8 rfl [2, 3, 4, 5, 6, 7, 0, 1] (by decide) rfl
        refine p_iastR 87 hL 2 (r := [ad, ev, tm + ev, fo]) (r' := [ad, ev, tm + ev, nx]) (k := 3) (v := nx) (L' := [iar b1 256 ((rE1 G) i), R1, iar b0 4 ([ad, ev, tm + ev, nx]), R0, pt (F 14) (.inr (11, [.ref (A 0), .ref (A 1), .ref (A 2), .int (nI G.length)])), iar (A 1) 8 (rZ G), pt m (.inr (13, moF F (upN (upN w 18 c) 15 (nx + 1)) bg)), rrw (F 12) 16 3 (E ++ [(pf (rE1 G i) 0 (rE1 G i).length, [ad, nx, 0])])]) rfl dX15_scan_86 rfl (by omega) (by omega) (iw_set (r := [ad, ev, tm + ev, fo]) (k := 3) (v := nx) (Nat.le_of_ble_eq_true rfl) (Nat.le_of_ble_eq_true rfl)) rfl (fun h hL => ?_)
        have hL : stars [grd (A 0) 8 256 (upL (rE1 G) i (rE1 G i)), iar b0 4 ([ad, ev, tm + ev, nx]), R0, pt (F 14) (.inr (11, [.ref (A 0), .ref (A 1), .ref (A 2), .int (nI G.length)])), iar (A 1) 8 (rZ G), pt m (.inr (13, moF F (upN (upN w 18 c) 15 (nx + 1)) bg)), rrw (F 12) 16 3 (E ++ [(pf (rE1 G i) 0 (rE1 G i).length, [ad, nx, 0])])] h := hC1 _ _ _ hL
        rw [upL_self] at hL
        have hL : stars [grd (A 0) 8 256 (rE1 G), iar b0 4 ([ad, ev, tm + ev, nx]), R0, pt (F 14) (.inr (11, [.ref (A 0), .ref (A 1), .ref (A 2), .int (nI G.length)])), iar (A 1) 8 (rZ G), pt m (.inr (13, moF F (upN (upN w 18 c) 15 (nx + 1)) bg)), rrw (F 12) 16 3 (E ++ [(pf (rE1 G i) 0 (rE1 G i).length, [ad, nx, 0])])] h := hL
        have hL : stars [iar b0 4 ([ad, ev, tm + ev, nx]), R0, grd (A 0) 8 256 (rE1 G), pt (F 14) (.inr (11, [.ref (A 0), .ref (A 1), .ref (A 2), .int (nI G.length)])), iar (A 1) 8 (rZ G), pt m (.inr (13, moF F (upN (upN w 18 c) 15 (nx + 1)) bg)), rrw (F 12) 16 3 (E ++ [(pf (rE1 G i) 0 (rE1 G i).length, [ad, nx, 0])])] h := stars_ixn hL 7 rfl [1, 2, 0, 3, 4, 5, 6] (by decide) rfl
        have hL : stars [grd (A 2) 8 4 (upL (rE2 G) i ([ad, ev, tm + ev, nx])), grd (A 0) 8 256 (rE1 G), pt (F 14) (.inr (11, [.ref (A 0), .ref (A 1), .ref (A 2), .int (nI G.length)])), iar (A 1) 8 (rZ G), pt m (.inr (13, moF F (upN (upN w 18 c) 15 (nx + 1)) bg)), rrw (F 12) 16 3 (E ++ [(pf (rE1 G i) 0 (rE1 G i).length, [ad, nx, 0])])] h := hC0 _ _ _ hL
        have hL : stars [pt (F 14) (.inr (11, [.ref (A 0), .ref (A 1), .ref (A 2), .int (nI G.length)])), grd (A 0) 8 256 (rE1 G), iar (A 1) 8 (rZ G), grd (A 2) 8 4 (upL (rE2 G) i ([ad, ev, tm + ev, nx])), pt m (.inr (13, moF F (upN (upN w 18 c) 15 (nx + 1)) bg)), rrw (F 12) 16 3 (E ++ [(pf (rE1 G i) 0 (rE1 G i).length, [ad, nx, 0])])] h := stars_ixn hL 6 rfl [2, 1, 3, 0, 4, 5] (by decide) rfl
        have hL : stars [rrw (F 14) 8 4 (G.set i (rE1 G i, [ad, ev, tm + ev, nx])), pt m (.inr (13, moF F (upN (upN w 18 c) 15 (nx + 1)) bg)), rrw (F 12) 16 3 (E ++ [(pf (rE1 G i) 0 (rE1 G i).length, [ad, nx, 0])])] h := rrw_st hnA hi hL
        have hL : stars [pt m (.inr (13, moF F (upN (upN w 18 c) 15 (nx + 1)) bg)), rrw (F 12) 16 3 (E ++ [(pf (rE1 G i) 0 (rE1 G i).length, [ad, nx, 0])]), rrw (F 14) 8 4 (G.set i (rE1 G i, [ad, ev, tm + ev, nx]))] h := stars_ixn hL 3 rfl [1, 2, 0] (by decide) rfl
        exact e_vret dX15_scan_87 rfl (by omega) (by omega) (⟨_, ⟨rfl, rfl⟩, by rw [if_neg (fun z => z k17), if_neg (fun z => z.elim k55 (fun y => by rw [k43] at y; exact Bool.noConfusion y))]; rw [pf_all] at hL; exact hL⟩)
      · have k55 := j_ne_f (a := E.length) (b := 16) (by omega) (by omega) c55
        have hL : stars [grd (A 0) 8 256 (upL (rE1 G) i (rE1 G i)), iar b0 4 ([ad, ev, tm + ev, fo]), R0, pt (F 14) (.inr (11, [.ref (A 0), .ref (A 1), .ref (A 2), .int (nI G.length)])), iar (A 1) 8 (rZ G), pt m (.inr (13, moF F (upN (upN w 18 c) 15 nx) bg)), rrw (F 12) 16 3 E] h := hC1 _ _ _ hL
        rw [upL_self] at hL
        have hL : stars [grd (A 0) 8 256 (rE1 G), iar b0 4 ([ad, ev, tm + ev, fo]), R0, pt (F 14) (.inr (11, [.ref (A 0), .ref (A 1), .ref (A 2), .int (nI G.length)])), iar (A 1) 8 (rZ G), pt m (.inr (13, moF F (upN (upN w 18 c) 15 nx) bg)), rrw (F 12) 16 3 E] h := hL
        have hL : stars [iar b0 4 ([ad, ev, tm + ev, fo]), R0, grd (A 0) 8 256 (rE1 G), pt (F 14) (.inr (11, [.ref (A 0), .ref (A 1), .ref (A 2), .int (nI G.length)])), iar (A 1) 8 (rZ G), pt m (.inr (13, moF F (upN (upN w 18 c) 15 nx) bg)), rrw (F 12) 16 3 E] h := stars_ixn hL 7 rfl [1, 2, 0, 3, 4, 5, 6] (by decide) rfl
        have hL : stars [grd (A 2) 8 4 (upL (rE2 G) i ([ad, ev, tm + ev, fo])), grd (A 0) 8 256 (rE1 G), pt (F 14) (.inr (11, [.ref (A 0), .ref (A 1), .ref (A 2), .int (nI G.length)])), iar (A 1) 8 (rZ G), pt m (.inr (13, moF F (upN (upN w 18 c) 15 nx) bg)), rrw (F 12) 16 3 E] h := hC0 _ _ _ hL
        have hL : stars [pt (F 14) (.inr (11, [.ref (A 0), .ref (A 1), .ref (A 2), .int (nI G.length)])), grd (A 0) 8 256 (rE1 G), iar (A 1) 8 (rZ G), grd (A 2) 8 4 (upL (rE2 G) i ([ad, ev, tm + ev, fo])), pt m (.inr (13, moF F (upN (upN w 18 c) 15 nx) bg)), rrw (F 12) 16 3 E] h := stars_ixn hL 6 rfl [2, 1, 3, 0, 4, 5] (by decide) rfl
        have hL : stars [rrw (F 14) 8 4 (G.set i (rE1 G i, [ad, ev, tm + ev, fo])), pt m (.inr (13, moF F (upN (upN w 18 c) 15 nx) bg)), rrw (F 12) 16 3 E] h := rrw_st hnA hi hL
        have hL : stars [pt m (.inr (13, moF F (upN (upN w 18 c) 15 nx) bg)), rrw (F 12) 16 3 E, rrw (F 14) 8 4 (G.set i (rE1 G i, [ad, ev, tm + ev, fo]))] h := stars_ixn hL 3 rfl [1, 2, 0] (by decide) rfl
        exact e_vret dX15_scan_58 rfl (by omega) (by omega) (⟨_, ⟨rfl, rfl⟩, by rw [if_neg (fun z => z k17), if_pos (Or.inl k55)]; exact hL⟩)
  · have k17 := j_eq_f (a := tm) (b := c) (by omega) (by omega) c17
    have hL : stars [grd (A 0) 8 256 (upL (rE1 G) i (rE1 G i)), iar b0 4 ([ad, ev, tm, fo]), R0, pt (F 14) (.inr (11, [.ref (A 0), .ref (A 1), .ref (A 2), .int (nI G.length)])), iar (A 1) 8 (rZ G), pt m (.inr (13, moF F (upN (upN w 18 c) 15 nx) bg)), rrw (F 12) 16 3 E] h := hC1 _ _ _ hL
    rw [upL_self] at hL
    have hL : stars [grd (A 0) 8 256 (rE1 G), iar b0 4 ([ad, ev, tm, fo]), R0, pt (F 14) (.inr (11, [.ref (A 0), .ref (A 1), .ref (A 2), .int (nI G.length)])), iar (A 1) 8 (rZ G), pt m (.inr (13, moF F (upN (upN w 18 c) 15 nx) bg)), rrw (F 12) 16 3 E] h := hL
    have hL : stars [iar b0 4 ([ad, ev, tm, fo]), R0, grd (A 0) 8 256 (rE1 G), pt (F 14) (.inr (11, [.ref (A 0), .ref (A 1), .ref (A 2), .int (nI G.length)])), iar (A 1) 8 (rZ G), pt m (.inr (13, moF F (upN (upN w 18 c) 15 nx) bg)), rrw (F 12) 16 3 E] h := stars_ixn hL 7 rfl [1, 2, 0, 3, 4, 5, 6] (by decide) rfl
    have hL : stars [grd (A 2) 8 4 (upL (rE2 G) i ([ad, ev, tm, fo])), grd (A 0) 8 256 (rE1 G), pt (F 14) (.inr (11, [.ref (A 0), .ref (A 1), .ref (A 2), .int (nI G.length)])), iar (A 1) 8 (rZ G), pt m (.inr (13, moF F (upN (upN w 18 c) 15 nx) bg)), rrw (F 12) 16 3 E] h := hC0 _ _ _ hL
    have hL : stars [pt (F 14) (.inr (11, [.ref (A 0), .ref (A 1), .ref (A 2), .int (nI G.length)])), grd (A 0) 8 256 (rE1 G), iar (A 1) 8 (rZ G), grd (A 2) 8 4 (upL (rE2 G) i ([ad, ev, tm, fo])), pt m (.inr (13, moF F (upN (upN w 18 c) 15 nx) bg)), rrw (F 12) 16 3 E] h := stars_ixn hL 6 rfl [2, 1, 3, 0, 4, 5] (by decide) rfl
    have hL : stars [rrw (F 14) 8 4 G, pt m (.inr (13, moF F (upN (upN w 18 c) 15 nx) bg)), rrw (F 12) 16 3 E] h := rrw_cS hnA hG hL
    have hL : stars [pt m (.inr (13, moF F (upN (upN w 18 c) 15 nx) bg)), rrw (F 12) 16 3 E, rrw (F 14) 8 4 G] h := stars_ixn hL 3 rfl [1, 2, 0] (by decide) rfl
    exact e_vret dX15_scan_20 rfl (by omega) (by omega) (⟨_, ⟨rfl, rfl⟩, by rw [if_pos k17]; exact hL⟩)
