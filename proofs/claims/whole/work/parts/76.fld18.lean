/-! FieldLine: step -/
theorem mst_hd (L : List sA) (i : Nat) {m : Nat} {s : MS} {z : HD} {h : eH} (hL : stars L h) (hi : L[i]? = some (mst m s z)) : z.2.2.1.length = 16 ∧ z.1 < 16 ∧ z.2.2.2.length = 32 ∧ z.2.1 < 32 := by
  obtain ⟨h1, ⟨A, L1, L2, K, hR, -⟩, -⟩ := stars_part L i hL hi
  refine ⟨?_, hR.1.2.1, ?_, hR.2.1.2.1⟩
  · rw [← hR.2.2.1, List.length_map]; exact hR.1.1
  · rw [← hR.2.2.2.1, List.length_map]; exact hR.2.1.1
theorem bN_lt {B : Nat → Nat} {j n : Nat} (h : ∀ k, k ≠ 5 → k ≠ 9 → B k < n) : ∀ k, k ≠ 5 → k ≠ 9 → bN B j 1 k < n + 1 := by
  intro k h5 h9
  have := h k h5 h9
  unfold bN upN
  split
  · rename_i z; subst z; omega
  · omega
theorem adR_lt {v : Nat → Nat} {hs : List (Nat × Nat)} : adR v hs < 3 := by
  unfold adR ad2R
  (repeat' split) <;> decide
theorem K_wait1 {m : Nat} {s : MS} {z : HD} (sb : Bool) {k : Nat} (hk : nI k = bI sb) (hQ : ∀ e ∈ s.2.1, e.2.2.1 < 1000 ∧ e.2.2.2 < 100000000) (hp1 : s.1 1 < 1000) (h3 : s.1 3 < 1000) (hv4 : s.1 4 < 100000) (hv5 : s.1 5 < 100000) (hv2 : s.1 2 < 100000000) : CA mX3_waitOneTick [.ref m, .int (nI k)] [mst m s z] (fun r K => r = none ∧ K = [mst m (wtS s sb) (wtH s sb z)]) 3 78 0 0 := by
  rw [hk]
  exact K_wait hQ hp1 h3 hv4 hv5 hv2
set_option maxRecDepth 20000 in
set_option maxHeartbeats 2000000 in
theorem e_73 {o NB : Nat} {g GF : GS} {z ZF : HD} {mc ms ce sl : Nat} (hce : ce ≤ mc) (hsl : sl ≤ ms) (hn : nul z ≤ NB) {B : Nat → Nat} (hB : okB B g) (hk : ∀ k, k ≠ 5 → k ≠ 9 → B k < 899990) (hk5 : B 5 < 80000000) (hk9 : B 9 < 90000000) (hG : s0G (s9G (adR (s5G g).2.2.2.1.2.1 (s5G g).2.2.2.1.2.2) ((s5G g).2.2.2.1.2.1 1) (s8G ((s5G g).2.2.2.1.2.1 1) (s7G (adR (s5G g).2.2.2.1.2.1 (s5G g).2.2.2.1.2.2) ((s5G g).2.2.2.1.2.1 1) (s6G (s5G g))))) = GF) (hZ : s9H (adR (s5G g).2.2.2.1.2.1 (s5G g).2.2.2.1.2.2) ((s5G g).2.2.2.1.2.1 1) (s8G ((s5G g).2.2.2.1.2.1 1) (s7G (adR (s5G g).2.2.2.1.2.1 (s5G g).2.2.2.1.2.2) ((s5G g).2.2.2.1.2.1 1) (s6G (s5G g)))) z = ZF) {h : eH} (hL : stars [flo o g z] h) : EE mX11_step 6 200 mc ms (fun r h' => ∃ K, ((r = none ∧ nul ZF ≤ NB) ∧ K = [flo o GF ZF]) ∧ stars K h') 73 [some (.ref o), none, none] [] h ce sl := by
  have hB5 := ok_s5 hB
  obtain ⟨⟨m1, m2, m3, m4, m5, m9, m13, m14, m20⟩, -⟩ := hB5.2.2.2.1
  obtain ⟨-, ⟨w1, w2, w3, w4, w5, w6, w7, w8, w9, w10⟩, wh, wl⟩ := hB5.2.2.1
  have b0 := hk 0 (by decide) (by decide)
  have b1 := hk 1 (by decide) (by decide)
  have b2 := hk 2 (by decide) (by decide)
  have b3 := hk 3 (by decide) (by decide)
  have b4 := hk 4 (by decide) (by decide)
  have b6 := hk 6 (by decide) (by decide)
  have b7 := hk 7 (by decide) (by decide)
  have b8 := hk 8 (by decide) (by decide)
  have b10 := hk 10 (by decide) (by decide)
  have hck := hB5.2.2.2.2.1
  have hB6 := ok_s6 hB5
  have hk6 : ∀ k, k ≠ 5 → k ≠ 9 → bN (bN B 0 1) 6 1 k < 900000 := fun k a b => Nat.lt_of_lt_of_le (bN_lt (bN_lt hk) k a b) (by decide)
  refine e_aload_n 74 dX11_step_73 rfl rfl ?_
  refine p_callV 77 hL [0] 1 rfl (by decide) (L1 := [flo o g z]) (L2 := []) rfl flo_O 0 rfl dX11_step_74 rfl cv_X11_224 (K_shortenLags (fun s hs => (hB.2.1 s hs).1)) rfl rfl (Nat.le_of_ble_eq_true rfl) ⟨by decide, by omega, by omega⟩ (fun r1 L1 h q hL => ?_)
  obtain ⟨rfl, rfl⟩ := q
  have hL : stars [flo o (s5G g) z] h := hL
  obtain ⟨F, DL, hr, cm, hD, hl6, hL⟩ := flo_o hL
  have hL : stars [pt o (.inr (9, [.ref (F 0), .ref (F 1), .ref (F 2), .ref (F 3), .ref (F 4), .int (nI DL.length), .ref (F 6), .ref (F 7), .int (nI (s5G g).2.2.2.2.2)])), row (F 0) 400 ((s5G g).1), row (F 1) 253 ((s5G g).2.1), row (F 2) 253 hr, row (F 3) 253 cm, pt (F 4) (.inl (2, 6, .inr (.inr (.inr (.inr (adD DL)))))), wire (F 6) ((s5G g).2.2.2.1.1) ((s5G g).2.2.2.1.2.1) ((s5G g).2.2.2.1.2.2), mst (F 7) ((s5G g).2.2.2.2.1) z, lst dve DL] h := hL
  refine e_aload_n 78 dX11_step_77 rfl rfl ?_
  refine e_get 81 dX11_step_78 rfl fl_X11_40_9 (stars_at _ 0 hL rfl) rfl ?_
  obtain ⟨z81, y81⟩ := wire_rd _ 6 hL rfl 
  refine e_get 84 dX11_step_81 rfl fl_X11_211_8 y81 rfl ?_
  refine e_istore_n 85 (ls' := [some (.ref o), some (.int (nI ((s5G g).2.2.2.1.2.1 1))), none]) dX11_step_84 rfl (by decide) rfl ?_
  refine e_aload_n 86 dX11_step_85 rfl rfl ?_
  refine e_get 89 dX11_step_86 rfl fl_X11_40_9 (stars_at _ 0 hL rfl) rfl ?_
  refine p_callV 92 hL [6, 0, 1, 2, 3, 4, 5, 7, 8] 9 rfl (by decide) (L1 := [wire (F 6) ((s5G g).2.2.2.1.1) ((s5G g).2.2.2.1.2.1) ((s5G g).2.2.2.1.2.2)]) (L2 := [pt o (.inr (9, [.ref (F 0), .ref (F 1), .ref (F 2), .ref (F 3), .ref (F 4), .int (nI DL.length), .ref (F 6), .ref (F 7), .int (nI (s5G g).2.2.2.2.2)])), row (F 0) 400 ((s5G g).1), row (F 1) 253 ((s5G g).2.1), row (F 2) 253 hr, row (F 3) 253 cm, pt (F 4) (.inl (2, 6, .inr (.inr (.inr (.inr (adD DL)))))), mst (F 7) ((s5G g).2.2.2.2.1) z, lst dve DL]) rfl wire_O 6 rfl dX11_step_89 rfl cv_X11_227 (k_X10_advance (fun e he => ⟨by have := (wh e he).1; omega, by have := (wh e he).2; omega⟩) (by omega) (by omega) (by omega) (by omega) (by omega) (by omega) (by omega) (by omega)) rfl rfl (Nat.le_of_ble_eq_true rfl) ⟨by decide, by omega, by omega⟩ (fun r1 L1 h q hL => ?_)
  obtain ⟨rfl, rfl⟩ := q
  have hL : stars [wire (F 6) ((s5G g).2.2.2.1.1) (adV (s5G g).2.2.2.1.2.1 (s5G g).2.2.2.1.1 (s5G g).2.2.2.1.2.2) (adL (s5G g).2.2.2.1.2.1 (s5G g).2.2.2.1.2.2), pt o (.inr (9, [.ref (F 0), .ref (F 1), .ref (F 2), .ref (F 3), .ref (F 4), .int (nI DL.length), .ref (F 6), .ref (F 7), .int (nI (s5G g).2.2.2.2.2)])), row (F 0) 400 ((s5G g).1), row (F 1) 253 ((s5G g).2.1), row (F 2) 253 hr, row (F 3) 253 cm, pt (F 4) (.inl (2, 6, .inr (.inr (.inr (.inr (adD DL)))))), mst (F 7) ((s5G g).2.2.2.2.1) z, lst dve DL] h := hL
  have hL : stars [pt o (.inr (9, [.ref (F 0), .ref (F 1), .ref (F 2), .ref (F 3), .ref (F 4), .int (nI DL.length), .ref (F 6), .ref (F 7), .int (nI (s5G g).2.2.2.2.2)])), row (F 0) 400 ((s5G g).1), row (F 1) 253 ((s5G g).2.1), row (F 2) 253 hr, row (F 3) 253 cm, pt (F 4) (.inl (2, 6, .inr (.inr (.inr (.inr (adD DL)))))), wire (F 6) ((s5G g).2.2.2.1.1) (adV (s5G g).2.2.2.1.2.1 (s5G g).2.2.2.1.1 (s5G g).2.2.2.1.2.2) (adL (s5G g).2.2.2.1.2.1 (s5G g).2.2.2.1.2.2), mst (F 7) ((s5G g).2.2.2.2.1) z, lst dve DL] h := stars_ixn hL 9 rfl [1, 2, 3, 4, 5, 6, 0, 7, 8] (by decide) rfl
  have hdl := adR_lt (v := (s5G g).2.2.2.1.2.1) (hs := (s5G g).2.2.2.1.2.2)
  refine e_istore_n 93 (ls' := [some (.ref o), some (.int (nI ((s5G g).2.2.2.1.2.1 1))), some (.int (nI (adR (s5G g).2.2.2.1.2.1 (s5G g).2.2.2.1.2.2)))]) dX11_step_92 rfl (by decide) rfl ?_
  refine e_iload_n 94 dX11_step_93 rfl rfl ?_
  refine e_iconst 95 (v := (nI 2)) dX11_step_94 rfl (by decide) ?_
  refine e_icmp_ne 110 98 dX11_step_95 rfl rfl (fun c95 => ?_) (fun c95 => ?_)
  · have k95 := j_ne_t (a := (adR (s5G g).2.2.2.1.2.1 (s5G g).2.2.2.1.2.2)) (b := 2) (by omega) (by omega) c95
    have hL := flo_c (g := (s6G (s5G g))) (z := z) (X := []) hD hl6 (stars_ixn hL 9 rfl [0, 1, 2, 3, 4, 5, 6, 7, 8] (by decide) rfl)
    have hL : stars [flo o (s6G (s5G g)) z] h := hL
    have e7 : (s7G (adR (s5G g).2.2.2.1.2.1 (s5G g).2.2.2.1.2.2) ((s5G g).2.2.2.1.2.1 1) (s6G (s5G g))) = (s6G (s5G g)) := by rw [s7G, if_neg (show ¬ (adR (s5G g).2.2.2.1.2.1 (s5G g).2.2.2.1.2.2) = 2 by omega)]
    rw [← e7] at hL
    exact e_110 (g := (s7G (adR (s5G g).2.2.2.1.2.1 (s5G g).2.2.2.1.2.2) ((s5G g).2.2.2.1.2.1 1) (s6G (s5G g)))) (who := ((s5G g).2.2.2.1.2.1 1)) (did := (adR (s5G g).2.2.2.1.2.1 (s5G g).2.2.2.1.2.2)) (by omega) (by omega) hn (ok_s7 hB6) hk6 hk5 hk9 (by omega) (by omega) hG hZ hL
  · have k95 := j_ne_f (a := (adR (s5G g).2.2.2.1.2.1 (s5G g).2.2.2.1.2.2)) (b := 2) (by omega) (by omega) c95
    refine e_aload_n 99 dX11_step_98 rfl rfl ?_
    refine e_iload_n 100 dX11_step_99 rfl rfl ?_
    refine e_aload_n 101 dX11_step_100 rfl rfl ?_
    refine e_get 104 dX11_step_101 rfl fl_X11_40_9 (stars_at _ 0 hL rfl) rfl ?_
    obtain ⟨z104, y104⟩ := wire_rd _ 6 hL rfl 
    refine e_get 107 dX11_step_104 rfl fl_X11_231_8 y104 rfl ?_
    have hL := flo_c (g := (s6G (s5G g))) (z := z) (X := []) hD hl6 (stars_ixn hL 9 rfl [0, 1, 2, 3, 4, 5, 6, 7, 8] (by decide) rfl)
    have hL : stars [flo o (s6G (s5G g)) z] h := hL
    refine p_callV 110 hL [0] 1 rfl (by decide) (L1 := [flo o (s6G (s5G g)) z]) (L2 := []) rfl flo_O 0 rfl dX11_step_107 rfl cv_X11_233 (K_spread (by omega) (by have := hB6.2.2.2.1.1.2.2.2.2.2.2.2.2; have := hk6 1 (by decide) (by decide); omega) (fun s hs => by have := (hB6.2.1 s hs).2; have := hk6 1 (by decide) (by decide); omega) (fun s hs => (hB6.2.1 s hs).1)) rfl rfl (Nat.le_of_ble_eq_true rfl) ⟨by decide, by omega, by omega⟩ (fun r1 L1 h q hL => ?_)
    obtain ⟨rfl, rfl⟩ := q
    have hL : stars [flo o ((s6G (s5G g)).1, (s6G (s5G g)).2.1, spD ((s5G g).2.2.2.1.2.1 1) ((s6G (s5G g)).2.2.2.1.2.1 7) (s6G (s5G g)).2.2.1, (s6G (s5G g)).2.2.2.1, spM ((s5G g).2.2.2.1.2.1 1) ((s6G (s5G g)).2.2.2.1.2.1 7) (s6G (s5G g)).2.2.2.2.1, (s6G (s5G g)).2.2.2.2.2) z] h := hL
    have e7 : (s7G (adR (s5G g).2.2.2.1.2.1 (s5G g).2.2.2.1.2.2) ((s5G g).2.2.2.1.2.1 1) (s6G (s5G g))) = ((s6G (s5G g)).1, (s6G (s5G g)).2.1, spD ((s5G g).2.2.2.1.2.1 1) ((s6G (s5G g)).2.2.2.1.2.1 7) (s6G (s5G g)).2.2.1, (s6G (s5G g)).2.2.2.1, spM ((s5G g).2.2.2.1.2.1 1) ((s6G (s5G g)).2.2.2.1.2.1 7) (s6G (s5G g)).2.2.2.2.1, (s6G (s5G g)).2.2.2.2.2) := by rw [s7G, if_pos (show (adR (s5G g).2.2.2.1.2.1 (s5G g).2.2.2.1.2.2) = 2 by omega)]
    rw [← e7] at hL
    exact e_110 (g := (s7G (adR (s5G g).2.2.2.1.2.1 (s5G g).2.2.2.1.2.2) ((s5G g).2.2.2.1.2.1 1) (s6G (s5G g)))) (who := ((s5G g).2.2.2.1.2.1 1)) (did := (adR (s5G g).2.2.2.1.2.1 (s5G g).2.2.2.1.2.2)) (by omega) (by omega) hn (ok_s7 hB6) hk6 hk5 hk9 (by omega) (by omega) hG hZ hL
set_option maxRecDepth 20000 in
set_option maxHeartbeats 2000000 in
theorem e_51 {o NB : Nat} {g GF : GS} {z ZF : HD} {mc ms ce sl : Nat} (hce : ce ≤ mc) (hsl : sl ≤ ms) (hn : nul z ≤ NB) {B : Nat → Nat} (hB : okB B g) (hk : ∀ k, k ≠ 5 → k ≠ 9 → B k < 899980) (hk5 : B 5 < 80000000) (hk9 : B 9 < 90000000) (hG : s0G (s9G (adR (s5G (s4G g)).2.2.2.1.2.1 (s5G (s4G g)).2.2.2.1.2.2) ((s5G (s4G g)).2.2.2.1.2.1 1) (s8G ((s5G (s4G g)).2.2.2.1.2.1 1) (s7G (adR (s5G (s4G g)).2.2.2.1.2.1 (s5G (s4G g)).2.2.2.1.2.2) ((s5G (s4G g)).2.2.2.1.2.1 1) (s6G (s5G (s4G g)))))) = GF) (hZ : s9H (adR (s5G (s4G g)).2.2.2.1.2.1 (s5G (s4G g)).2.2.2.1.2.2) ((s5G (s4G g)).2.2.2.1.2.1 1) (s8G ((s5G (s4G g)).2.2.2.1.2.1 1) (s7G (adR (s5G (s4G g)).2.2.2.1.2.1 (s5G (s4G g)).2.2.2.1.2.2) ((s5G (s4G g)).2.2.2.1.2.1 1) (s6G (s5G (s4G g))))) (s4H g z) = ZF) {h : eH} (hL : stars [flo o g z] h) : EE mX11_step 6 200 mc ms (fun r h' => ∃ K, ((r = none ∧ nul ZF ≤ NB) ∧ K = [flo o GF ZF]) ∧ stars K h') 51 [some (.ref o), none, none] [] h ce sl := by
  obtain ⟨⟨m1, m2, m3, m4, m5, m9, m13, m14, m20⟩, -⟩ := hB.2.2.2.1
  obtain ⟨-, ⟨w1, w2, w3, w4, w5, w6, w7, w8, w9, w10⟩, wh, wl⟩ := hB.2.2.1
  have b0 := hk 0 (by decide) (by decide)
  have b1 := hk 1 (by decide) (by decide)
  have b2 := hk 2 (by decide) (by decide)
  have b3 := hk 3 (by decide) (by decide)
  have b4 := hk 4 (by decide) (by decide)
  have b6 := hk 6 (by decide) (by decide)
  have b7 := hk 7 (by decide) (by decide)
  have b8 := hk 8 (by decide) (by decide)
  have b10 := hk 10 (by decide) (by decide)
  have hck := hB.2.2.2.2.1
  have hkH := flo_hk _ 0 hL rfl
  refine e_aload_n 52 dX11_step_51 rfl rfl ?_
  obtain ⟨F, DL, hr, cm, hD, hl6, hL⟩ := flo_o hL
  have hL : stars [pt o (.inr (9, [.ref (F 0), .ref (F 1), .ref (F 2), .ref (F 3), .ref (F 4), .int (nI DL.length), .ref (F 6), .ref (F 7), .int (nI g.2.2.2.2.2)])), row (F 0) 400 g.1, row (F 1) 253 g.2.1, row (F 2) 253 hr, row (F 3) 253 cm, pt (F 4) (.inl (2, 6, .inr (.inr (.inr (.inr (adD DL)))))), wire (F 6) g.2.2.2.1.1 g.2.2.2.1.2.1 g.2.2.2.1.2.2, mst (F 7) g.2.2.2.2.1 z, lst dve DL] h := hL
  refine e_get 55 dX11_step_52 rfl fl_X11_47_9 (stars_at _ 0 hL rfl) rfl ?_
  refine e_aload_n 56 dX11_step_55 rfl rfl ?_
  refine e_get 59 dX11_step_56 rfl fl_X11_40_9 (stars_at _ 0 hL rfl) rfl ?_
  obtain ⟨z59, y59⟩ := wire_rd _ 6 hL rfl 
  refine e_get 62 dX11_step_59 rfl fl_X11_211_8 y59 rfl ?_
  refine e_if_eq 69 65 dX11_step_62 rfl rfl (fun c62 => ?_) (fun c62 => ?_)
  · have k62 := j_eq0_t (a := (g.2.2.2.1.2.1 1)) (by omega) c62
    refine e_iconst 70 (v := (nI 0)) dX11_step_69 rfl (by decide) ?_
    refine p_callV 73 hL [7, 0, 1, 2, 3, 4, 5, 6, 8] 9 rfl (by decide) (L1 := [mst (F 7) g.2.2.2.2.1 z]) (L2 := [pt o (.inr (9, [.ref (F 0), .ref (F 1), .ref (F 2), .ref (F 3), .ref (F 4), .int (nI DL.length), .ref (F 6), .ref (F 7), .int (nI g.2.2.2.2.2)])), row (F 0) 400 g.1, row (F 1) 253 g.2.1, row (F 2) 253 hr, row (F 3) 253 cm, pt (F 4) (.inl (2, 6, .inr (.inr (.inr (.inr (adD DL)))))), wire (F 6) g.2.2.2.1.1 g.2.2.2.1.2.1 g.2.2.2.1.2.2, lst dve DL]) rfl mst_O 7 rfl dX11_step_70 rfl cv_X11_220 (K_wait1 false (by decide) (fun e he => by have := hB.2.2.2.1.2.1 e he; exact ⟨Nat.lt_trans this.2.2.2.1 (by decide), by have := this.2.2.2.2; omega⟩) (by omega) (by omega) (by omega) (by omega) (by omega)) rfl rfl (Nat.le_of_ble_eq_true rfl) ⟨by decide, by omega, by omega⟩ (fun r1 L1 h q hL => ?_)
    obtain ⟨rfl, rfl⟩ := q
    have hL : stars [mst (F 7) (wtS g.2.2.2.2.1 false) (wtH g.2.2.2.2.1 false z), pt o (.inr (9, [.ref (F 0), .ref (F 1), .ref (F 2), .ref (F 3), .ref (F 4), .int (nI DL.length), .ref (F 6), .ref (F 7), .int (nI g.2.2.2.2.2)])), row (F 0) 400 g.1, row (F 1) 253 g.2.1, row (F 2) 253 hr, row (F 3) 253 cm, pt (F 4) (.inl (2, 6, .inr (.inr (.inr (.inr (adD DL)))))), wire (F 6) g.2.2.2.1.1 g.2.2.2.1.2.1 g.2.2.2.1.2.2, lst dve DL] h := hL
    have hL : stars [pt o (.inr (9, [.ref (F 0), .ref (F 1), .ref (F 2), .ref (F 3), .ref (F 4), .int (nI DL.length), .ref (F 6), .ref (F 7), .int (nI g.2.2.2.2.2)])), row (F 0) 400 g.1, row (F 1) 253 g.2.1, row (F 2) 253 hr, row (F 3) 253 cm, pt (F 4) (.inl (2, 6, .inr (.inr (.inr (.inr (adD DL)))))), wire (F 6) g.2.2.2.1.1 g.2.2.2.1.2.1 g.2.2.2.1.2.2, mst (F 7) (wtS g.2.2.2.2.1 false) (wtH g.2.2.2.2.1 false z), lst dve DL] h := stars_ixn hL 9 rfl [1, 2, 3, 4, 5, 6, 7, 0, 8] (by decide) rfl
    have hL := flo_c (g := (stM3 g (wtS g.2.2.2.2.1 false))) (z := (wtH g.2.2.2.2.1 false z)) (X := []) hD hl6 (stars_ixn hL 9 rfl [0, 1, 2, 3, 4, 5, 6, 7, 8] (by decide) rfl)
    have hL : stars [flo o (stM3 g (wtS g.2.2.2.2.1 false)) (wtH g.2.2.2.2.1 false z)] h := hL
    have e4 : s4G g = stM3 g (wtS g.2.2.2.2.1 false) := by rw [s4G, decide_eq_true (show g.2.2.2.1.2.1 1 = 0 by omega)]; rfl
    have e4z : s4H g z = wtH g.2.2.2.2.1 false z := by rw [s4H, decide_eq_true (show g.2.2.2.1.2.1 1 = 0 by omega)]; rfl
    rw [← e4, ← e4z] at hL
    exact e_73 (g := s4G g) (z := s4H g z) (by omega) (by omega) (by rw [s4H, nul_wt hkH]; exact hn) (ok_s4 hB) (fun k a b => Nat.lt_of_lt_of_le (bN_lt (bN_lt hk) k a b) (by decide)) hk5 hk9 hG hZ hL
  · have k62 := j_eq0_f (a := (g.2.2.2.1.2.1 1)) (by omega) c62
    refine e_iconst 66 (v := (nI 1)) dX11_step_65 rfl (by decide) ?_
    refine e_goto 70 dX11_step_66 rfl ?_
    refine p_callV 73 hL [7, 0, 1, 2, 3, 4, 5, 6, 8] 9 rfl (by decide) (L1 := [mst (F 7) g.2.2.2.2.1 z]) (L2 := [pt o (.inr (9, [.ref (F 0), .ref (F 1), .ref (F 2), .ref (F 3), .ref (F 4), .int (nI DL.length), .ref (F 6), .ref (F 7), .int (nI g.2.2.2.2.2)])), row (F 0) 400 g.1, row (F 1) 253 g.2.1, row (F 2) 253 hr, row (F 3) 253 cm, pt (F 4) (.inl (2, 6, .inr (.inr (.inr (.inr (adD DL)))))), wire (F 6) g.2.2.2.1.1 g.2.2.2.1.2.1 g.2.2.2.1.2.2, lst dve DL]) rfl mst_O 7 rfl dX11_step_70 rfl cv_X11_220 (K_wait1 true (by decide) (fun e he => by have := hB.2.2.2.1.2.1 e he; exact ⟨Nat.lt_trans this.2.2.2.1 (by decide), by have := this.2.2.2.2; omega⟩) (by omega) (by omega) (by omega) (by omega) (by omega)) rfl rfl (Nat.le_of_ble_eq_true rfl) ⟨by decide, by omega, by omega⟩ (fun r1 L1 h q hL => ?_)
    obtain ⟨rfl, rfl⟩ := q
    have hL : stars [mst (F 7) (wtS g.2.2.2.2.1 true) (wtH g.2.2.2.2.1 true z), pt o (.inr (9, [.ref (F 0), .ref (F 1), .ref (F 2), .ref (F 3), .ref (F 4), .int (nI DL.length), .ref (F 6), .ref (F 7), .int (nI g.2.2.2.2.2)])), row (F 0) 400 g.1, row (F 1) 253 g.2.1, row (F 2) 253 hr, row (F 3) 253 cm, pt (F 4) (.inl (2, 6, .inr (.inr (.inr (.inr (adD DL)))))), wire (F 6) g.2.2.2.1.1 g.2.2.2.1.2.1 g.2.2.2.1.2.2, lst dve DL] h := hL
    have hL : stars [pt o (.inr (9, [.ref (F 0), .ref (F 1), .ref (F 2), .ref (F 3), .ref (F 4), .int (nI DL.length), .ref (F 6), .ref (F 7), .int (nI g.2.2.2.2.2)])), row (F 0) 400 g.1, row (F 1) 253 g.2.1, row (F 2) 253 hr, row (F 3) 253 cm, pt (F 4) (.inl (2, 6, .inr (.inr (.inr (.inr (adD DL)))))), wire (F 6) g.2.2.2.1.1 g.2.2.2.1.2.1 g.2.2.2.1.2.2, mst (F 7) (wtS g.2.2.2.2.1 true) (wtH g.2.2.2.2.1 true z), lst dve DL] h := stars_ixn hL 9 rfl [1, 2, 3, 4, 5, 6, 7, 0, 8] (by decide) rfl
    have hL := flo_c (g := (stM3 g (wtS g.2.2.2.2.1 true))) (z := (wtH g.2.2.2.2.1 true z)) (X := []) hD hl6 (stars_ixn hL 9 rfl [0, 1, 2, 3, 4, 5, 6, 7, 8] (by decide) rfl)
    have hL : stars [flo o (stM3 g (wtS g.2.2.2.2.1 true)) (wtH g.2.2.2.2.1 true z)] h := hL
    have e4 : s4G g = stM3 g (wtS g.2.2.2.2.1 true) := by rw [s4G, decide_eq_false (show ¬ g.2.2.2.1.2.1 1 = 0 by omega)]; rfl
    have e4z : s4H g z = wtH g.2.2.2.2.1 true z := by rw [s4H, decide_eq_false (show ¬ g.2.2.2.1.2.1 1 = 0 by omega)]; rfl
    rw [← e4, ← e4z] at hL
    exact e_73 (g := s4G g) (z := s4H g z) (by omega) (by omega) (by rw [s4H, nul_wt hkH]; exact hn) (ok_s4 hB) (fun k a b => Nat.lt_of_lt_of_le (bN_lt (bN_lt hk) k a b) (by decide)) hk5 hk9 hG hZ hL
set_option maxRecDepth 20000 in
set_option maxHeartbeats 2000000 in
theorem e_14 {o NB : Nat} {g GF : GS} {z ZF : HD} {mc ms ce sl : Nat} (hce : ce + 3 * nul z ≤ mc + 3 * nul (s2H g z)) (hsl : sl + 261 * nul z ≤ ms + 261 * nul (s2H g z)) (hn : nul (s2H g z) ≤ NB) {B : Nat → Nat} (hB : okB B g) (hk : ∀ k, k ≠ 5 → k ≠ 9 → B k < 899970) (hk5 : B 5 < 79999990) (hk9 : B 9 < 90000000) (h910 : B 10 + 30000 ≤ B 9) (hG : s0G (s9G (adR (s5G (s4G (s3G (s2G g)))).2.2.2.1.2.1 (s5G (s4G (s3G (s2G g)))).2.2.2.1.2.2) ((s5G (s4G (s3G (s2G g)))).2.2.2.1.2.1 1) (s8G ((s5G (s4G (s3G (s2G g)))).2.2.2.1.2.1 1) (s7G (adR (s5G (s4G (s3G (s2G g)))).2.2.2.1.2.1 (s5G (s4G (s3G (s2G g)))).2.2.2.1.2.2) ((s5G (s4G (s3G (s2G g)))).2.2.2.1.2.1 1) (s6G (s5G (s4G (s3G (s2G g)))))))) = GF) (hZ : s9H (adR (s5G (s4G (s3G (s2G g)))).2.2.2.1.2.1 (s5G (s4G (s3G (s2G g)))).2.2.2.1.2.2) ((s5G (s4G (s3G (s2G g)))).2.2.2.1.2.1 1) (s8G ((s5G (s4G (s3G (s2G g)))).2.2.2.1.2.1 1) (s7G (adR (s5G (s4G (s3G (s2G g)))).2.2.2.1.2.1 (s5G (s4G (s3G (s2G g)))).2.2.2.1.2.2) ((s5G (s4G (s3G (s2G g)))).2.2.2.1.2.1 1) (s6G (s5G (s4G (s3G (s2G g))))))) (s4H (s3G (s2G g)) (s2H g z)) = ZF) {h : eH} (hL : stars [flo o g z] h) : EE mX11_step 6 200 mc ms (fun r h' => ∃ K, ((r = none ∧ nul ZF ≤ NB) ∧ K = [flo o GF ZF]) ∧ stars K h') 14 [some (.ref o), none, none] [] h ce sl := by
  obtain ⟨⟨m1, m2, m3, m4, m5, m9, m13, m14, m20⟩, -⟩ := hB.2.2.2.1
  obtain ⟨-, ⟨w1, w2, w3, w4, w5, w6, w7, w8, w9, w10⟩, wh, wl⟩ := hB.2.2.1
  have b0 := hk 0 (by decide) (by decide)
  have b1 := hk 1 (by decide) (by decide)
  have b2 := hk 2 (by decide) (by decide)
  have b3 := hk 3 (by decide) (by decide)
  have b4 := hk 4 (by decide) (by decide)
  have b6 := hk 6 (by decide) (by decide)
  have b7 := hk 7 (by decide) (by decide)
  have b8 := hk 8 (by decide) (by decide)
  have b10 := hk 10 (by decide) (by decide)
  have hck := hB.2.2.2.2.1
  have hB2 := ok_s2 hB h910
  have hk2 : ∀ k, k ≠ 5 → k ≠ 9 → bN B 5 8 k < 899970 := fun k a b => by have := hk k a b; unfold bN upN; split <;> omega
  refine e_aload_n 15 dX11_step_14 rfl rfl ?_
  obtain ⟨F, DL, hr, cm, hD, hl6, hL⟩ := flo_o hL
  have hL : stars [pt o (.inr (9, [.ref (F 0), .ref (F 1), .ref (F 2), .ref (F 3), .ref (F 4), .int (nI DL.length), .ref (F 6), .ref (F 7), .int (nI g.2.2.2.2.2)])), row (F 0) 400 g.1, row (F 1) 253 g.2.1, row (F 2) 253 hr, row (F 3) 253 cm, pt (F 4) (.inl (2, 6, .inr (.inr (.inr (.inr (adD DL)))))), wire (F 6) g.2.2.2.1.1 g.2.2.2.1.2.1 g.2.2.2.1.2.2, mst (F 7) g.2.2.2.2.1 z, lst dve DL] h := hL
  refine e_get 18 dX11_step_15 rfl fl_X11_47_9 (stars_at _ 0 hL rfl) rfl ?_
  refine e_aload_n 19 dX11_step_18 rfl rfl ?_
  refine e_get 22 dX11_step_19 rfl fl_X11_51_9 (stars_at _ 0 hL rfl) rfl ?_
  obtain ⟨z1, z2, -, -⟩ := mst_hd _ 7 hL rfl
  have hmo : nul (s2H g z) ≤ nul z := by have := nul_scX (c := g.2.2.2.2.2) (x := (g.2.2.2.2.1, z)) z1 z2 0 g.2.2.2.2.1.2.2.2.1.length; rw [Nat.zero_add] at this; exact this
  refine p_callV 25 hL [7, 0, 1, 2, 3, 4, 5, 6, 8] 9 rfl (by decide) (L1 := [mst (F 7) g.2.2.2.2.1 z]) (L2 := [pt o (.inr (9, [.ref (F 0), .ref (F 1), .ref (F 2), .ref (F 3), .ref (F 4), .int (nI DL.length), .ref (F 6), .ref (F 7), .int (nI g.2.2.2.2.2)])), row (F 0) 400 g.1, row (F 1) 253 g.2.1, row (F 2) 253 hr, row (F 3) 253 cm, pt (F 4) (.inl (2, 6, .inr (.inr (.inr (.inr (adD DL)))))), wire (F 6) g.2.2.2.1.1 g.2.2.2.1.2.1 g.2.2.2.1.2.2, lst dve DL]) rfl mst_O 7 rfl dX11_step_22 rfl cv_X11_208 (K_runScans (mc := 3 * (nul z - nul (s2H g z))) (ms := 261 * (nul z - nul (s2H g z))) (by omega) (fun e he => by have := (hB.2.2.2.1.2.1 e he).2.2.1; omega) (fun e he => by have h9 := hB.2.2.2.1.2.2.2.1 e he; exact ⟨h9.2.1.2, by have := h9.2.2.1.2; omega, by have := h9.2.2.2.2.1; omega, fun k hk => by have := h9.2.2.2.2.2 k hk; omega⟩) (by have := hB.2.2.2.1.2.2.2.2.2.2.2.1; omega) (by show 3 * nul z ≤ 3 * (nul z - nul (s2H g z)) + 3 * nul (s2H g z); omega) (by show 261 * nul z ≤ 261 * (nul z - nul (s2H g z)) + 261 * nul (s2H g z); omega)) rfl rfl (Nat.le_of_ble_eq_true rfl) ⟨by decide, by omega, by omega⟩ (fun r1 L1 h q hL => ?_)
  obtain ⟨rfl, rfl⟩ := q
  have hL : stars [mst (F 7) (scS g.2.2.2.2.2 g.2.2.2.2.1.2.2.2.1.length g.2.2.2.2.1) ((scX g.2.2.2.2.2 g.2.2.2.2.1.2.2.2.1.length (g.2.2.2.2.1, z)).2), pt o (.inr (9, [.ref (F 0), .ref (F 1), .ref (F 2), .ref (F 3), .ref (F 4), .int (nI DL.length), .ref (F 6), .ref (F 7), .int (nI g.2.2.2.2.2)])), row (F 0) 400 g.1, row (F 1) 253 g.2.1, row (F 2) 253 hr, row (F 3) 253 cm, pt (F 4) (.inl (2, 6, .inr (.inr (.inr (.inr (adD DL)))))), wire (F 6) g.2.2.2.1.1 g.2.2.2.1.2.1 g.2.2.2.1.2.2, lst dve DL] h := hL
  have hL : stars [pt o (.inr (9, [.ref (F 0), .ref (F 1), .ref (F 2), .ref (F 3), .ref (F 4), .int (nI DL.length), .ref (F 6), .ref (F 7), .int (nI g.2.2.2.2.2)])), row (F 0) 400 g.1, row (F 1) 253 g.2.1, row (F 2) 253 hr, row (F 3) 253 cm, pt (F 4) (.inl (2, 6, .inr (.inr (.inr (.inr (adD DL)))))), wire (F 6) g.2.2.2.1.1 g.2.2.2.1.2.1 g.2.2.2.1.2.2, mst (F 7) (scS g.2.2.2.2.2 g.2.2.2.2.1.2.2.2.1.length g.2.2.2.2.1) ((scX g.2.2.2.2.2 g.2.2.2.2.1.2.2.2.1.length (g.2.2.2.2.1, z)).2), lst dve DL] h := stars_ixn hL 9 rfl [1, 2, 3, 4, 5, 6, 7, 0, 8] (by decide) rfl
  refine e_aload_n 26 dX11_step_25 rfl rfl ?_
  refine e_get 29 dX11_step_26 rfl fl_X11_40_9 (stars_at _ 0 hL rfl) rfl ?_
  obtain ⟨z29, y29⟩ := wire_rd _ 6 hL rfl 
  refine e_get 32 dX11_step_29 rfl fl_X11_211_8 y29 rfl ?_
  refine e_if_ne 51 35 dX11_step_32 rfl rfl (fun c32 => ?_) (fun c32 => ?_)
  · have k32 := j_ne0_t (a := (g.2.2.2.1.2.1 1)) (by omega) c32
    have hL := flo_c (g := (s2G g)) (z := (s2H g z)) (X := []) hD hl6 (stars_ixn hL 9 rfl [0, 1, 2, 3, 4, 5, 6, 7, 8] (by decide) rfl)
    have hL : stars [flo o (s2G g) (s2H g z)] h := hL
    have e3 : s3G (s2G g) = (s2G g) := by rw [s3G, if_neg (show ¬ ((s2G g).2.2.2.1.2.1 1 = 0 ∧ 14 ≤ (s2G g).2.2.2.1.2.1 2) from fun z9 => k32 z9.1)]
    rw [← e3] at hL
    exact e_51 (g := s3G (s2G g)) (z := (s2H g z)) (by omega) (by omega) hn (ok_s3 hB2) (fun k a b => Nat.lt_of_lt_of_le (bN_lt (bN_lt hk2) k a b) (by decide)) (show B 5 + 8 < 80000000 by omega) hk9 hG hZ hL
  · have k32 := j_ne0_f (a := (g.2.2.2.1.2.1 1)) (by omega) c32
    refine e_aload_n 36 dX11_step_35 rfl rfl ?_
    refine e_get 39 dX11_step_36 rfl fl_X11_40_9 (stars_at _ 0 hL rfl) rfl ?_
    obtain ⟨z39, y39⟩ := wire_rd _ 6 hL rfl 
    refine e_get 42 dX11_step_39 rfl fl_X11_214_8 y39 rfl ?_
    refine e_bipush 44 (v := (nI 14)) dX11_step_42 rfl (by decide) ?_
    refine e_icmp_lt 51 47 dX11_step_44 rfl rfl (fun c44 => ?_) (fun c44 => ?_)
    · have k44 := j_lt_t (a := (g.2.2.2.1.2.1 2)) (b := 14) (by omega) (by omega) c44
      have hL := flo_c (g := (s2G g)) (z := (s2H g z)) (X := []) hD hl6 (stars_ixn hL 9 rfl [0, 1, 2, 3, 4, 5, 6, 7, 8] (by decide) rfl)
      have hL : stars [flo o (s2G g) (s2H g z)] h := hL
      have e3 : s3G (s2G g) = (s2G g) := by rw [s3G, if_neg (show ¬ ((s2G g).2.2.2.1.2.1 1 = 0 ∧ 14 ≤ (s2G g).2.2.2.1.2.1 2) from fun z9 => by have h8 : 14 ≤ g.2.2.2.1.2.1 2 := z9.2; omega)]
      rw [← e3] at hL
      exact e_51 (g := s3G (s2G g)) (z := (s2H g z)) (by omega) (by omega) hn (ok_s3 hB2) (fun k a b => Nat.lt_of_lt_of_le (bN_lt (bN_lt hk2) k a b) (by decide)) (show B 5 + 8 < 80000000 by omega) hk9 hG hZ hL
    · have k44 := j_lt_f (a := (g.2.2.2.1.2.1 2)) (b := 14) (by omega) (by omega) c44
      refine e_aload_n 48 dX11_step_47 rfl rfl ?_
      have hL := flo_c (g := (s2G g)) (z := (s2H g z)) (X := []) hD hl6 (stars_ixn hL 9 rfl [0, 1, 2, 3, 4, 5, 6, 7, 8] (by decide) rfl)
      have hL : stars [flo o (s2G g) (s2H g z)] h := hL
      refine p_callV 51 hL [0] 1 rfl (by decide) (L1 := [flo o (s2G g) (s2H g z)]) (L2 := []) rfl flo_O 0 rfl dX11_step_48 rfl cv_X11_217 (K_beginFrame (fun s hs => (hB2.2.1 s hs).1) (by have := hB2.2.2.1.2.1.2.2.2.2.2.2.2.2.2; have : bN B 5 8 4 = B 4 := rfl; omega) (by have := hB2.2.2.2.1.1.1; omega) (fun e he => by have := hB2.2.2.2.1.2.1 e he; exact ⟨Nat.lt_trans this.2.2.2.1 (by decide), this.1⟩)) rfl rfl (Nat.le_of_ble_eq_true rfl) ⟨by decide, by omega, by omega⟩ (fun r1 L1 h q hL => ?_)
      obtain ⟨rfl, rfl⟩ := q
      have hL : stars [flo o (bgG (s2G g)) (s2H g z)] h := hL
      have e3 : s3G (s2G g) = (bgG (s2G g)) := by rw [s3G, if_pos (show (s2G g).2.2.2.1.2.1 1 = 0 ∧ 14 ≤ (s2G g).2.2.2.1.2.1 2 from ⟨k32, k44⟩)]
      rw [← e3] at hL
      exact e_51 (g := s3G (s2G g)) (z := (s2H g z)) (by omega) (by omega) hn (ok_s3 hB2) (fun k a b => Nat.lt_of_lt_of_le (bN_lt (bN_lt hk2) k a b) (by decide)) (show B 5 + 8 < 80000000 by omega) hk9 hG hZ hL
set_option maxRecDepth 20000 in
set_option maxHeartbeats 2000000 in
theorem k_X11_step {o : Nat} {g : GS} {z : HD} {mc ms : Nat} {B : Nat → Nat} (hB : okB B g) (hk : ∀ k, k ≠ 5 → k ≠ 9 → B k < 899970) (hk5 : B 5 < 79999990) (hk9 : B 9 < 90000000) (h910 : B 10 + 30000 ≤ B 9) (hmc : 3 * nul z ≤ mc + 3 * nul (s2H (s1G g) z)) (hms : 261 * nul z ≤ ms + 261 * nul (s2H (s1G g) z)) : CA mX11_step [.ref o] [flo o g z] (fun r K => (r = none ∧ nul (stH g z) ≤ nul (s2H (s1G g) z)) ∧ K = [flo o (stG g) (stH g z)]) 6 200 mc ms := by
  refine CA.mk 2 (ls := [some (.ref o), none, none]) rfl rfl (Nat.le_of_ble_eq_true rfl) rfl (fun h hL => ?_)
  have b10 := hk 10 (by decide) (by decide)
  have hck := hB.2.2.2.2.1
  refine e_aload_n 1 dX11_step_0 rfl rfl ?_
  obtain ⟨z1, y1⟩ := flo_rd _ 0 hL rfl 
  refine e_get 4 dX11_step_1 rfl fl_X11_51_9 y1 rfl ?_
  refine e_bipush 6 (v := (nI 20)) dX11_step_4 rfl (by decide) ?_
  refine e_irem 7 (v := (nI (g.2.2.2.2.2 % 20))) dX11_step_6 rfl (by decide) (pk_rem (by omega) (by decide) (by decide)) ?_
  refine e_if_ne 14 10 dX11_step_7 rfl rfl (fun c7 => ?_) (fun c7 => ?_)
  · have k7 := j_ne0_t (a := (g.2.2.2.2.2 % 20)) (by omega) c7
    have e1 : s1G g = g := by rw [s1G, if_neg (show ¬ g.2.2.2.2.2 % 20 = 0 by omega)]
    rw [← e1] at hL
    exact e_14 (g := s1G g) (z := z) (by omega) (by omega) (Nat.le_refl _) (ok_s1 hB) hk hk5 hk9 h910 rfl rfl hL
  · have k7 := j_ne0_f (a := (g.2.2.2.2.2 % 20)) (by omega) c7
    refine e_aload_n 11 dX11_step_10 rfl rfl ?_
    refine p_callV 14 hL [0] 1 rfl (by decide) (L1 := [flo o g z]) (L2 := []) rfl flo_O 0 rfl dX11_step_11 rfl cv_X11_205 (K_applyRules (fun s hs => (hB.2.1 s hs).1)) rfl rfl (Nat.le_of_ble_eq_true rfl) ⟨by decide, by omega, by omega⟩ (fun r1 L1 h q hL => ?_)
    obtain ⟨rfl, rfl⟩ := q
    have hL : stars [flo o (g.1, g.2.1, dvX (fun _ s => arD s) g.2.2.1.length g.2.2.1, g.2.2.2) z] h := hL
    have e1 : s1G g = (g.1, g.2.1, dvX (fun _ s => arD s) g.2.2.1.length g.2.2.1, g.2.2.2) := by rw [s1G, if_pos (show g.2.2.2.2.2 % 20 = 0 by omega)]
    rw [← e1] at hL
    exact e_14 (g := s1G g) (z := z) (by omega) (by omega) (Nat.le_refl _) (ok_s1 hB) hk hk5 hk9 h910 rfl rfl hL
