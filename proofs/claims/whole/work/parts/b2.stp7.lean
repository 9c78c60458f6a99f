/-! a tick of the class, and of the reference, with no bound on lost results: laid by wip/gen/stp7.py out of parts 75, 76, 80, ai -/
set_option maxRecDepth 20000 in
set_option maxHeartbeats 2000000 in
theorem e_1327 {o NB : Nat} {g GF : GS} {z ZF : HD} {mc ms ce sl : Nat} (hce : ce ≤ mc) (hsl : sl ≤ ms) (hn : nul z ≤ NB) {B : Nat → Nat} (hB : okB B g) (hk : ∀ k, k ≠ 5 → k ≠ 7 → k ≠ 9 → B k < 900000) (hk5 : B 5 < 80000000) (hk9 : B 9 < 90000000) {who did : Nat} (hw : who < 1000) (hdd : did < 1000) (hG : s0G (s9G did who g) = GF) (hZ : s9H did who g z = ZF) {h : eH} (hL : stars [flo o g z] h) : EE mX11_step 6 200 mc ms (fun r h' => ∃ K, ((r = none ∧ nul ZF ≤ NB) ∧ K = [flo o GF ZF]) ∧ stars K h') 132 [some (.ref o), some (.int (nI who)), some (.int (nI did))] [] h ce sl := by
  obtain ⟨⟨m1, m2, m3, m4, m5, m9, m13, m14, m20⟩, -⟩ := hB.2.2.2.1
  obtain ⟨-, ⟨w1, w2, w3, w4, w5, w6, w7, w8, w9, w10⟩, wh, wl⟩ := hB.2.2.1
  have b0 := hk 0 (by decide) (by decide) (by decide)
  have b1 := hk 1 (by decide) (by decide) (by decide)
  have b2 := hk 2 (by decide) (by decide) (by decide)
  have b3 := hk 3 (by decide) (by decide) (by decide)
  have b4 := hk 4 (by decide) (by decide) (by decide)
  have b6 := hk 6 (by decide) (by decide) (by decide)
  have b10 := hk 10 (by decide) (by decide) (by decide)
  have hck := hB.2.2.2.2.1
  have hkH := flo_hk _ 0 hL rfl
  refine e_iload_n 133 dX11_step_132 rfl rfl ?_
  refine e_if_ne 141 136 dX11_step_133 rfl rfl (fun c133 => ?_) (fun c133 => ?_)
  · have k133 := j_ne0_t (a := did) (by omega) c133
    refine e_wk [some (.ref o), none, none] ⟨rfl, trivial⟩ ?_
    exact e_141 (by omega) (by omega) hn (by rw [← hG, s9G, if_neg (show ¬ did = 0 by omega)]) (by rw [← hZ, s9H, if_neg (show ¬ did = 0 by omega)]) hL
  · have k133 := j_ne0_f (a := did) (by omega) c133
    refine e_aload_n 137 dX11_step_136 rfl rfl ?_
    refine e_iload_n 138 dX11_step_137 rfl rfl ?_
    refine p_callV 141 hL [0] 1 rfl (by decide) (L1 := [flo o g z]) (L2 := []) rfl flo_O 0 rfl dX11_step_138 rfl cv_X11_239 (K_silence hw (by omega) (fun s hs => by have := (hB.2.1 s hs).2; omega) (fun s hs => (hB.2.1 s hs).1) (fun e he => by have := hB.2.2.2.1.2.1 e he; exact ⟨⟨Nat.lt_trans this.2.2.2.1 (by decide), by have := this.2.2.2.2; omega⟩, this.1, this.2.1.1⟩) hB.2.2.2.1.2.2.2.2.1 (by omega) (by omega)) rfl rfl (Nat.le_of_ble_eq_true rfl) ⟨by decide, by omega, by omega⟩ (fun r1 L1 h q hL => ?_)
    obtain ⟨rfl, rfl⟩ := q
    have hL : stars [flo o (g.1, g.2.1, sdD who g.2.2.1, g.2.2.2.1, siM who g.2.2.2.2.1, g.2.2.2.2.2) (siH who g.2.2.2.2.1 z)] h := hL
    refine e_wk [some (.ref o), none, none] ⟨rfl, trivial⟩ ?_
    exact e_141 (by omega) (by omega) (by rw [nul_si hkH hB.2.2.2.1.2.2.2.2.1 hB.2.2.2.1.2.2.2.2.2.2.2.2]; exact hn) (by rw [← hG, s9G, if_pos (show did = 0 by omega)]) (by rw [← hZ, s9H, if_pos (show did = 0 by omega)]) hL
set_option maxRecDepth 20000 in
set_option maxHeartbeats 2000000 in
theorem e_1107 {o NB : Nat} {g GF : GS} {z ZF : HD} {mc ms ce sl : Nat} (hce : ce ≤ mc) (hsl : sl ≤ ms) (hn : nul z ≤ NB) {B : Nat → Nat} (hB : okB B g) (hk : ∀ k, k ≠ 5 → k ≠ 7 → k ≠ 9 → B k < 900000) (hk5 : B 5 < 80000000) (hk9 : B 9 < 90000000) {who did : Nat} (hw : who < 1000) (hdd : did < 1000) (hG : s0G (s9G did who (s8G who g)) = GF) (hZ : s9H did who (s8G who g) z = ZF) {h : eH} (hL : stars [flo o g z] h) : EE mX11_step 6 200 mc ms (fun r h' => ∃ K, ((r = none ∧ nul ZF ≤ NB) ∧ K = [flo o GF ZF]) ∧ stars K h') 110 [some (.ref o), some (.int (nI who)), some (.int (nI did))] [] h ce sl := by
  obtain ⟨⟨m1, m2, m3, m4, m5, m9, m13, m14, m20⟩, -⟩ := hB.2.2.2.1
  obtain ⟨-, ⟨w1, w2, w3, w4, w5, w6, w7, w8, w9, w10⟩, wh, wl⟩ := hB.2.2.1
  have b0 := hk 0 (by decide) (by decide) (by decide)
  have b1 := hk 1 (by decide) (by decide) (by decide)
  have b2 := hk 2 (by decide) (by decide) (by decide)
  have b3 := hk 3 (by decide) (by decide) (by decide)
  have b4 := hk 4 (by decide) (by decide) (by decide)
  have b6 := hk 6 (by decide) (by decide) (by decide)
  have b10 := hk 10 (by decide) (by decide) (by decide)
  have hck := hB.2.2.2.2.1
  refine e_iload_n 111 dX11_step_110 rfl rfl ?_
  refine e_iconst 112 (v := (nI 1)) dX11_step_111 rfl (by decide) ?_
  refine e_icmp_ne 132 115 dX11_step_112 rfl rfl (fun c112 => ?_) (fun c112 => ?_)
  · have k112 := j_ne_t (a := who) (b := 1) (by omega) (by omega) c112
    have e9 : s8G who g = g := by rw [s8G, if_neg (show ¬ (who = 1 ∧ g.2.2.2.1.2.1 1 = 0) from fun z9 => by omega)]
    exact e_1327 (g := g) (by omega) (by omega) hn (by rw [← e9]; exact ok_s8 hB) hk hk5 hk9 hw hdd (by rw [← hG, e9]) (by rw [← hZ, e9]) hL
  · have k112 := j_ne_f (a := who) (b := 1) (by omega) (by omega) c112
    obtain ⟨F, DL, hr, cm, hD, hl6, hL⟩ := flo_o hL
    have hL : stars [pt o (.inr (9, [.ref (F 0), .ref (F 1), .ref (F 2), .ref (F 3), .ref (F 4), .int (nI DL.length), .ref (F 6), .ref (F 7), .int (nI g.2.2.2.2.2)])), row (F 0) 400 g.1, row (F 1) 253 g.2.1, row (F 2) 253 hr, row (F 3) 253 cm, pt (F 4) (.inl (2, 6, .inr (.inr (.inr (.inr (adD DL)))))), wire (F 6) g.2.2.2.1.1 g.2.2.2.1.2.1 g.2.2.2.1.2.2, mst (F 7) g.2.2.2.2.1 z, lst dve DL] h := hL
    refine e_aload_n 116 dX11_step_115 rfl rfl ?_
    refine e_get 119 dX11_step_116 rfl fl_X11_40_9 (stars_at _ 0 hL rfl) rfl ?_
    obtain ⟨z119, y119⟩ := wire_rd _ 6 hL rfl 
    refine e_get 122 dX11_step_119 rfl fl_X11_211_8 y119 rfl ?_
    refine e_if_ne 132 125 dX11_step_122 rfl rfl (fun c122 => ?_) (fun c122 => ?_)
    · have k122 := j_ne0_t (a := (g.2.2.2.1.2.1 1)) (by omega) c122
      have hL := flo_c (g := g) (z := z) (X := []) hD hl6 (stars_ixn hL 9 rfl [0, 1, 2, 3, 4, 5, 6, 7, 8] (by decide) rfl)
      have hL : stars [flo o g z] h := hL
      have e9 : s8G who g = g := by rw [s8G, if_neg (show ¬ (who = 1 ∧ g.2.2.2.1.2.1 1 = 0) from fun z9 => by omega)]
      exact e_1327 (g := g) (by omega) (by omega) hn (by rw [← e9]; exact ok_s8 hB) hk hk5 hk9 hw hdd (by rw [← hG, e9]) (by rw [← hZ, e9]) hL
    · have k122 := j_ne0_f (a := (g.2.2.2.1.2.1 1)) (by omega) c122
      refine e_aload_n 126 dX11_step_125 rfl rfl ?_
      refine e_get 129 dX11_step_126 rfl fl_X11_47_9 (stars_at _ 0 hL rfl) rfl ?_
      refine p_callV 132 hL [7, 0, 1, 2, 3, 4, 5, 6, 8] 9 rfl (by decide) (L1 := [mst (F 7) g.2.2.2.2.1 z]) (L2 := [pt o (.inr (9, [.ref (F 0), .ref (F 1), .ref (F 2), .ref (F 3), .ref (F 4), .int (nI DL.length), .ref (F 6), .ref (F 7), .int (nI g.2.2.2.2.2)])), row (F 0) 400 g.1, row (F 1) 253 g.2.1, row (F 2) 253 hr, row (F 3) 253 cm, pt (F 4) (.inl (2, 6, .inr (.inr (.inr (.inr (adD DL)))))), wire (F 6) g.2.2.2.1.1 g.2.2.2.1.2.1 g.2.2.2.1.2.2, lst dve DL]) rfl mst_O 7 rfl dX11_step_129 rfl cv_X11_236 K_startWaiting rfl rfl (Nat.le_of_ble_eq_true rfl) ⟨by decide, by omega, by omega⟩ (fun r1 L1 h q hL => ?_)
      obtain ⟨rfl, rfl⟩ := q
      have hL : stars [mst (F 7) (swM g.2.2.2.2.1) z, pt o (.inr (9, [.ref (F 0), .ref (F 1), .ref (F 2), .ref (F 3), .ref (F 4), .int (nI DL.length), .ref (F 6), .ref (F 7), .int (nI g.2.2.2.2.2)])), row (F 0) 400 g.1, row (F 1) 253 g.2.1, row (F 2) 253 hr, row (F 3) 253 cm, pt (F 4) (.inl (2, 6, .inr (.inr (.inr (.inr (adD DL)))))), wire (F 6) g.2.2.2.1.1 g.2.2.2.1.2.1 g.2.2.2.1.2.2, lst dve DL] h := hL
      have hL : stars [pt o (.inr (9, [.ref (F 0), .ref (F 1), .ref (F 2), .ref (F 3), .ref (F 4), .int (nI DL.length), .ref (F 6), .ref (F 7), .int (nI g.2.2.2.2.2)])), row (F 0) 400 g.1, row (F 1) 253 g.2.1, row (F 2) 253 hr, row (F 3) 253 cm, pt (F 4) (.inl (2, 6, .inr (.inr (.inr (.inr (adD DL)))))), wire (F 6) g.2.2.2.1.1 g.2.2.2.1.2.1 g.2.2.2.1.2.2, mst (F 7) (swM g.2.2.2.2.1) z, lst dve DL] h := stars_ixn hL 9 rfl [1, 2, 3, 4, 5, 6, 7, 0, 8] (by decide) rfl
      have hL := flo_c (g := (stM3 g (swM g.2.2.2.2.1))) (z := z) (X := []) hD hl6 (stars_ixn hL 9 rfl [0, 1, 2, 3, 4, 5, 6, 7, 8] (by decide) rfl)
      have hL : stars [flo o (stM3 g (swM g.2.2.2.2.1)) z] h := hL
      have e9 : s8G who g = (stM3 g (swM g.2.2.2.2.1)) := by rw [s8G, if_pos (show who = 1 ∧ g.2.2.2.1.2.1 1 = 0 from ⟨by omega, by omega⟩)]
      exact e_1327 (g := (stM3 g (swM g.2.2.2.2.1))) (by omega) (by omega) hn (by rw [← e9]; exact ok_s8 hB) hk hk5 hk9 hw hdd (by rw [← hG, e9]) (by rw [← hZ, e9]) hL
set_option maxRecDepth 20000 in
set_option maxHeartbeats 2000000 in
theorem bN_lt7 {B : Nat → Nat} {j n : Nat} (h : ∀ k, k ≠ 5 → k ≠ 7 → k ≠ 9 → B k < n) : ∀ k, k ≠ 5 → k ≠ 7 → k ≠ 9 → bN B j 1 k < n + 1 := by
  intro k h5 h7 h9
  have := h k h5 h7 h9
  unfold bN upN
  split
  · rename_i z; subst z; omega
  · omega
set_option maxRecDepth 20000 in
set_option maxHeartbeats 2000000 in
theorem e_737 {o NB : Nat} {g GF : GS} {z ZF : HD} {mc ms ce sl : Nat} (hce : ce ≤ mc) (hsl : sl ≤ ms) (hn : nul z ≤ NB) {B : Nat → Nat} (hB : okB B g) (hk : ∀ k, k ≠ 5 → k ≠ 7 → k ≠ 9 → B k < 899990) (hk5 : B 5 < 80000000) (hk9 : B 9 < 90000000) (hG : s0G (s9G (adR (s5G g).2.2.2.1.2.1 (s5G g).2.2.2.1.2.2) ((s5G g).2.2.2.1.2.1 1) (s8G ((s5G g).2.2.2.1.2.1 1) (s7G (adR (s5G g).2.2.2.1.2.1 (s5G g).2.2.2.1.2.2) ((s5G g).2.2.2.1.2.1 1) (s6G (s5G g))))) = GF) (hZ : s9H (adR (s5G g).2.2.2.1.2.1 (s5G g).2.2.2.1.2.2) ((s5G g).2.2.2.1.2.1 1) (s8G ((s5G g).2.2.2.1.2.1 1) (s7G (adR (s5G g).2.2.2.1.2.1 (s5G g).2.2.2.1.2.2) ((s5G g).2.2.2.1.2.1 1) (s6G (s5G g)))) z = ZF) {h : eH} (hL : stars [flo o g z] h) : EE mX11_step 6 200 mc ms (fun r h' => ∃ K, ((r = none ∧ nul ZF ≤ NB) ∧ K = [flo o GF ZF]) ∧ stars K h') 73 [some (.ref o), none, none] [] h ce sl := by
  have hB5 := ok_s5 hB
  obtain ⟨⟨m1, m2, m3, m4, m5, m9, m13, m14, m20⟩, -⟩ := hB5.2.2.2.1
  obtain ⟨-, ⟨w1, w2, w3, w4, w5, w6, w7, w8, w9, w10⟩, wh, wl⟩ := hB5.2.2.1
  have b0 := hk 0 (by decide) (by decide) (by decide)
  have b1 := hk 1 (by decide) (by decide) (by decide)
  have b2 := hk 2 (by decide) (by decide) (by decide)
  have b3 := hk 3 (by decide) (by decide) (by decide)
  have b4 := hk 4 (by decide) (by decide) (by decide)
  have b6 := hk 6 (by decide) (by decide) (by decide)
  have b8 := hk 8 (by decide) (by decide) (by decide)
  have b10 := hk 10 (by decide) (by decide) (by decide)
  have hck := hB5.2.2.2.2.1
  have hB6 := ok_s6 hB5
  have hk6 : ∀ k, k ≠ 5 → k ≠ 7 → k ≠ 9 → bN (bN B 0 1) 6 1 k < 900000 := fun k a a7 b => Nat.lt_of_lt_of_le (bN_lt7 (bN_lt7 hk) k a a7 b) (by decide)
  refine e_aload_n 74 dX11_step_73 rfl rfl ?_
  refine p_callV 77 hL [0] 1 rfl (by decide) (L1 := [flo o g z]) (L2 := []) rfl flo_O 0 rfl dX11_step_74 rfl cv_X11_224 (K_shortenLags (fun s hs => (hB.2.1 s hs).1)) rfl rfl (Nat.le_of_ble_eq_true rfl) ⟨by decide, by omega, by omega⟩ (fun r1 L1 h q hL => ?_)
  obtain ⟨rfl, rfl⟩ := q
  have hL : stars [flo o (s5G g) z] h := hL
  obtain ⟨F, DL, hr, cm, hD, hl6, hL⟩ := flo_o hL
  have hL : stars [pt o (.inr (9, [.ref (F 0), .ref (F 1), .ref (F 2), .ref (F 3), .ref (F 4), .int (nI DL.length), .ref (F 6), .ref (F 7), .int (nI (s5G g).2.2.2.2.2)])), row (F 0) 400 ((s5G g).1), row (F 1) 253 ((s5G g).2.1), row (F 2) 253 hr, row (F 3) 253 cm, pt (F 4) (.inl (2, 6, .inr (.inr (.inr (.inr (adD DL)))))), wire (F 6) ((s5G g).2.2.2.1.1) ((s5G g).2.2.2.1.2.1) ((s5G g).2.2.2.1.2.2), mst (F 7) ((s5G g).2.2.2.2.1) z, lst dve DL] h := hL
  refine e_aload_n 78 dX11_step_77 rfl rfl ?_
  refine e_get 81 dX11_step_78 rfl fl_X11_40_9 (stars_at _ 0 hL rfl) rfl ?_
  obtain ⟨z81, y81⟩ := wire_rd _ 6 hL rfl 
  refine e_get 84 dX11_step_81 rfl fl_X11_211_8 y81 rfl ?_
  refine e_istore_n 85 (ls' := [some (.ref o), some (.int (nI ((s5G g).2.2.2.1.2.1 1))), none]) dX11_step_84 rfl (by decide) rfl ?_
  refine e_aload_n 86 dX11_step_85 rfl rfl ?_
  refine e_get 89 dX11_step_86 rfl fl_X11_40_9 (stars_at _ 0 hL rfl) rfl ?_
  refine p_callV 92 hL [6, 0, 1, 2, 3, 4, 5, 7, 8] 9 rfl (by decide) (L1 := [wire (F 6) ((s5G g).2.2.2.1.1) ((s5G g).2.2.2.1.2.1) ((s5G g).2.2.2.1.2.2)]) (L2 := [pt o (.inr (9, [.ref (F 0), .ref (F 1), .ref (F 2), .ref (F 3), .ref (F 4), .int (nI DL.length), .ref (F 6), .ref (F 7), .int (nI (s5G g).2.2.2.2.2)])), row (F 0) 400 ((s5G g).1), row (F 1) 253 ((s5G g).2.1), row (F 2) 253 hr, row (F 3) 253 cm, pt (F 4) (.inl (2, 6, .inr (.inr (.inr (.inr (adD DL)))))), mst (F 7) ((s5G g).2.2.2.2.1) z, lst dve DL]) rfl wire_O 6 rfl dX11_step_89 rfl cv_X11_227 (k_X10_advance (fun e he => ⟨by have := (wh e he).1; omega, by have := (wh e he).2; omega⟩) (by omega) (by omega) (by omega) (by omega) (by omega) (by omega) (by omega) (by omega)) rfl rfl (Nat.le_of_ble_eq_true rfl) ⟨by decide, by omega, by omega⟩ (fun r1 L1 h q hL => ?_)
  obtain ⟨rfl, rfl⟩ := q
  have hL : stars [wire (F 6) ((s5G g).2.2.2.1.1) (adV (s5G g).2.2.2.1.2.1 (s5G g).2.2.2.1.1 (s5G g).2.2.2.1.2.2) (adL (s5G g).2.2.2.1.2.1 (s5G g).2.2.2.1.2.2), pt o (.inr (9, [.ref (F 0), .ref (F 1), .ref (F 2), .ref (F 3), .ref (F 4), .int (nI DL.length), .ref (F 6), .ref (F 7), .int (nI (s5G g).2.2.2.2.2)])), row (F 0) 400 ((s5G g).1), row (F 1) 253 ((s5G g).2.1), row (F 2) 253 hr, row (F 3) 253 cm, pt (F 4) (.inl (2, 6, .inr (.inr (.inr (.inr (adD DL)))))), mst (F 7) ((s5G g).2.2.2.2.1) z, lst dve DL] h := hL
  have hL : stars [pt o (.inr (9, [.ref (F 0), .ref (F 1), .ref (F 2), .ref (F 3), .ref (F 4), .int (nI DL.length), .ref (F 6), .ref (F 7), .int (nI (s5G g).2.2.2.2.2)])), row (F 0) 400 ((s5G g).1), row (F 1) 253 ((s5G g).2.1), row (F 2) 253 hr, row (F 3) 253 cm, pt (F 4) (.inl (2, 6, .inr (.inr (.inr (.inr (adD DL)))))), wire (F 6) ((s5G g).2.2.2.1.1) (adV (s5G g).2.2.2.1.2.1 (s5G g).2.2.2.1.1 (s5G g).2.2.2.1.2.2) (adL (s5G g).2.2.2.1.2.1 (s5G g).2.2.2.1.2.2), mst (F 7) ((s5G g).2.2.2.2.1) z, lst dve DL] h := stars_ixn hL 9 rfl [1, 2, 3, 4, 5, 6, 0, 7, 8] (by decide) rfl
  have hdl := adR_lt (v := (s5G g).2.2.2.1.2.1) (hs := (s5G g).2.2.2.1.2.2)
  refine e_istore_n 93 (ls' := [some (.ref o), some (.int (nI ((s5G g).2.2.2.1.2.1 1))), some (.int (nI (adR (s5G g).2.2.2.1.2.1 (s5G g).2.2.2.1.2.2)))]) dX11_step_92 rfl (by decide) rfl ?_
  refine e_iload_n 94 dX11_step_93 rfl rfl ?_
  refine e_iconst 95 (v := (nI 2)) dX11_step_94 rfl (by decide) ?_
  refine e_icmp_ne 110 98 dX11_step_95 rfl rfl (fun c95 => ?_) (fun c95 => ?_)
  · have k95 := j_ne_t (a := (adR (s5G g).2.2.2.1.2.1 (s5G g).2.2.2.1.2.2)) (b := 2) (by omega) (by omega) c95
    have hL := flo_c (g := (s6G (s5G g))) (z := z) (X := []) hD hl6 (stars_ixn hL 9 rfl [0, 1, 2, 3, 4, 5, 6, 7, 8] (by decide) rfl)
    have hL : stars [flo o (s6G (s5G g)) z] h := hL
    have e7 : (s7G (adR (s5G g).2.2.2.1.2.1 (s5G g).2.2.2.1.2.2) ((s5G g).2.2.2.1.2.1 1) (s6G (s5G g))) = (s6G (s5G g)) := by rw [s7G, if_neg (show ¬ (adR (s5G g).2.2.2.1.2.1 (s5G g).2.2.2.1.2.2) = 2 by omega)]
    rw [← e7] at hL
    exact e_1107 (g := (s7G (adR (s5G g).2.2.2.1.2.1 (s5G g).2.2.2.1.2.2) ((s5G g).2.2.2.1.2.1 1) (s6G (s5G g)))) (who := ((s5G g).2.2.2.1.2.1 1)) (did := (adR (s5G g).2.2.2.1.2.1 (s5G g).2.2.2.1.2.2)) (by omega) (by omega) hn (ok_s7 hB6) hk6 hk5 hk9 (by omega) (by omega) hG hZ hL
  · have k95 := j_ne_f (a := (adR (s5G g).2.2.2.1.2.1 (s5G g).2.2.2.1.2.2)) (b := 2) (by omega) (by omega) c95
    refine e_aload_n 99 dX11_step_98 rfl rfl ?_
    refine e_iload_n 100 dX11_step_99 rfl rfl ?_
    refine e_aload_n 101 dX11_step_100 rfl rfl ?_
    refine e_get 104 dX11_step_101 rfl fl_X11_40_9 (stars_at _ 0 hL rfl) rfl ?_
    obtain ⟨z104, y104⟩ := wire_rd _ 6 hL rfl 
    refine e_get 107 dX11_step_104 rfl fl_X11_231_8 y104 rfl ?_
    have hL := flo_c (g := (s6G (s5G g))) (z := z) (X := []) hD hl6 (stars_ixn hL 9 rfl [0, 1, 2, 3, 4, 5, 6, 7, 8] (by decide) rfl)
    have hL : stars [flo o (s6G (s5G g)) z] h := hL
    refine p_callV 110 hL [0] 1 rfl (by decide) (L1 := [flo o (s6G (s5G g)) z]) (L2 := []) rfl flo_O 0 rfl dX11_step_107 rfl cv_X11_233 (K_spread (by omega) (by have := hB6.2.2.2.1.1.2.2.2.2.2.2.2.2; have := hk6 1 (by decide) (by decide); omega) (fun s hs => by have := (hB6.2.1 s hs).2; have := hk6 1 (by decide) (by decide); omega) (fun s hs => (hB6.2.1 s hs).1)) rfl rfl (Nat.le_of_ble_eq_true rfl) ⟨by decide, by omega, by omega⟩ (fun r1 L1 h q hL => ?_)
    obtain ⟨rfl, rfl⟩ := q
    have hL : stars [flo o ((s6G (s5G g)).1, (s6G (s5G g)).2.1, spD ((s5G g).2.2.2.1.2.1 1) ((s6G (s5G g)).2.2.2.1.2.1 7) (s6G (s5G g)).2.2.1, (s6G (s5G g)).2.2.2.1, spM ((s5G g).2.2.2.1.2.1 1) ((s6G (s5G g)).2.2.2.1.2.1 7) (s6G (s5G g)).2.2.2.2.1, (s6G (s5G g)).2.2.2.2.2) z] h := hL
    have e7 : (s7G (adR (s5G g).2.2.2.1.2.1 (s5G g).2.2.2.1.2.2) ((s5G g).2.2.2.1.2.1 1) (s6G (s5G g))) = ((s6G (s5G g)).1, (s6G (s5G g)).2.1, spD ((s5G g).2.2.2.1.2.1 1) ((s6G (s5G g)).2.2.2.1.2.1 7) (s6G (s5G g)).2.2.1, (s6G (s5G g)).2.2.2.1, spM ((s5G g).2.2.2.1.2.1 1) ((s6G (s5G g)).2.2.2.1.2.1 7) (s6G (s5G g)).2.2.2.2.1, (s6G (s5G g)).2.2.2.2.2) := by rw [s7G, if_pos (show (adR (s5G g).2.2.2.1.2.1 (s5G g).2.2.2.1.2.2) = 2 by omega)]
    rw [← e7] at hL
    exact e_1107 (g := (s7G (adR (s5G g).2.2.2.1.2.1 (s5G g).2.2.2.1.2.2) ((s5G g).2.2.2.1.2.1 1) (s6G (s5G g)))) (who := ((s5G g).2.2.2.1.2.1 1)) (did := (adR (s5G g).2.2.2.1.2.1 (s5G g).2.2.2.1.2.2)) (by omega) (by omega) hn (ok_s7 hB6) hk6 hk5 hk9 (by omega) (by omega) hG hZ hL
set_option maxRecDepth 20000 in
set_option maxHeartbeats 2000000 in
theorem e_517 {o NB : Nat} {g GF : GS} {z ZF : HD} {mc ms ce sl : Nat} (hce : ce ≤ mc) (hsl : sl ≤ ms) (hn : nul z ≤ NB) {B : Nat → Nat} (hB : okB B g) (hk : ∀ k, k ≠ 5 → k ≠ 7 → k ≠ 9 → B k < 899980) (hk5 : B 5 < 80000000) (hk9 : B 9 < 90000000) (hG : s0G (s9G (adR (s5G (s4G g)).2.2.2.1.2.1 (s5G (s4G g)).2.2.2.1.2.2) ((s5G (s4G g)).2.2.2.1.2.1 1) (s8G ((s5G (s4G g)).2.2.2.1.2.1 1) (s7G (adR (s5G (s4G g)).2.2.2.1.2.1 (s5G (s4G g)).2.2.2.1.2.2) ((s5G (s4G g)).2.2.2.1.2.1 1) (s6G (s5G (s4G g)))))) = GF) (hZ : s9H (adR (s5G (s4G g)).2.2.2.1.2.1 (s5G (s4G g)).2.2.2.1.2.2) ((s5G (s4G g)).2.2.2.1.2.1 1) (s8G ((s5G (s4G g)).2.2.2.1.2.1 1) (s7G (adR (s5G (s4G g)).2.2.2.1.2.1 (s5G (s4G g)).2.2.2.1.2.2) ((s5G (s4G g)).2.2.2.1.2.1 1) (s6G (s5G (s4G g))))) (s4H g z) = ZF) {h : eH} (hL : stars [flo o g z] h) : EE mX11_step 6 200 mc ms (fun r h' => ∃ K, ((r = none ∧ nul ZF ≤ NB) ∧ K = [flo o GF ZF]) ∧ stars K h') 51 [some (.ref o), none, none] [] h ce sl := by
  obtain ⟨⟨m1, m2, m3, m4, m5, m9, m13, m14, m20⟩, -⟩ := hB.2.2.2.1
  obtain ⟨-, ⟨w1, w2, w3, w4, w5, w6, w7, w8, w9, w10⟩, wh, wl⟩ := hB.2.2.1
  have b0 := hk 0 (by decide) (by decide) (by decide)
  have b1 := hk 1 (by decide) (by decide) (by decide)
  have b2 := hk 2 (by decide) (by decide) (by decide)
  have b3 := hk 3 (by decide) (by decide) (by decide)
  have b4 := hk 4 (by decide) (by decide) (by decide)
  have b6 := hk 6 (by decide) (by decide) (by decide)
  have b8 := hk 8 (by decide) (by decide) (by decide)
  have b10 := hk 10 (by decide) (by decide) (by decide)
  have hck := hB.2.2.2.2.1
  have hkH := flo_hk _ 0 hL rfl
  refine e_aload_n 52 dX11_step_51 rfl rfl ?_
  obtain ⟨F, DL, hr, cm, hD, hl6, hL⟩ := flo_o hL
  have hL : stars [pt o (.inr (9, [.ref (F 0), .ref (F 1), .ref (F 2), .ref (F 3), .ref (F 4), .int (nI DL.length), .ref (F 6), .ref (F 7), .int (nI g.2.2.2.2.2)])), row (F 0) 400 g.1, row (F 1) 253 g.2.1, row (F 2) 253 hr, row (F 3) 253 cm, pt (F 4) (.inl (2, 6, .inr (.inr (.inr (.inr (adD DL)))))), wire (F 6) g.2.2.2.1.1 g.2.2.2.1.2.1 g.2.2.2.1.2.2, mst (F 7) g.2.2.2.2.1 z, lst dve DL] h := hL
  refine e_get 55 dX11_step_52 rfl fl_X11_47_9 (stars_at _ 0 hL rfl) rfl ?_
  refine e_aload_n 56 dX11_step_55 rfl rfl ?_
  refine e_get 59 dX11_step_56 rfl fl_X11_40_9 (stars_at _ 0 hL rfl) rfl ?_
  obtain ⟨z59, y59⟩ := wire_rd _ 6 hL rfl 
  refine e_get 62 dX11_step_59 rfl fl_X11_211_8 y59 rfl ?_
  refine e_if_eq 69 65 dX11_step_62 rfl rfl (fun c62 => ?_) (fun c62 => ?_)
  · have k62 := j_eq0_t (a := (g.2.2.2.1.2.1 1)) (by omega) c62
    refine e_iconst 70 (v := (nI 0)) dX11_step_69 rfl (by decide) ?_
    refine p_callV 73 hL [7, 0, 1, 2, 3, 4, 5, 6, 8] 9 rfl (by decide) (L1 := [mst (F 7) g.2.2.2.2.1 z]) (L2 := [pt o (.inr (9, [.ref (F 0), .ref (F 1), .ref (F 2), .ref (F 3), .ref (F 4), .int (nI DL.length), .ref (F 6), .ref (F 7), .int (nI g.2.2.2.2.2)])), row (F 0) 400 g.1, row (F 1) 253 g.2.1, row (F 2) 253 hr, row (F 3) 253 cm, pt (F 4) (.inl (2, 6, .inr (.inr (.inr (.inr (adD DL)))))), wire (F 6) g.2.2.2.1.1 g.2.2.2.1.2.1 g.2.2.2.1.2.2, lst dve DL]) rfl mst_O 7 rfl dX11_step_70 rfl cv_X11_220 (K_wait1 false (by decide) (fun e he => by have := hB.2.2.2.1.2.1 e he; exact ⟨Nat.lt_trans this.2.2.2.1 (by decide), by have := this.2.2.2.2; omega⟩) (by omega) (by omega) (by omega) (by omega) (by omega)) rfl rfl (Nat.le_of_ble_eq_true rfl) ⟨by decide, by omega, by omega⟩ (fun r1 L1 h q hL => ?_)
    obtain ⟨rfl, rfl⟩ := q
    have hL : stars [mst (F 7) (wtS g.2.2.2.2.1 false) (wtH g.2.2.2.2.1 false z), pt o (.inr (9, [.ref (F 0), .ref (F 1), .ref (F 2), .ref (F 3), .ref (F 4), .int (nI DL.length), .ref (F 6), .ref (F 7), .int (nI g.2.2.2.2.2)])), row (F 0) 400 g.1, row (F 1) 253 g.2.1, row (F 2) 253 hr, row (F 3) 253 cm, pt (F 4) (.inl (2, 6, .inr (.inr (.inr (.inr (adD DL)))))), wire (F 6) g.2.2.2.1.1 g.2.2.2.1.2.1 g.2.2.2.1.2.2, lst dve DL] h := hL
    have hL : stars [pt o (.inr (9, [.ref (F 0), .ref (F 1), .ref (F 2), .ref (F 3), .ref (F 4), .int (nI DL.length), .ref (F 6), .ref (F 7), .int (nI g.2.2.2.2.2)])), row (F 0) 400 g.1, row (F 1) 253 g.2.1, row (F 2) 253 hr, row (F 3) 253 cm, pt (F 4) (.inl (2, 6, .inr (.inr (.inr (.inr (adD DL)))))), wire (F 6) g.2.2.2.1.1 g.2.2.2.1.2.1 g.2.2.2.1.2.2, mst (F 7) (wtS g.2.2.2.2.1 false) (wtH g.2.2.2.2.1 false z), lst dve DL] h := stars_ixn hL 9 rfl [1, 2, 3, 4, 5, 6, 7, 0, 8] (by decide) rfl
    have hL := flo_c (g := (stM3 g (wtS g.2.2.2.2.1 false))) (z := (wtH g.2.2.2.2.1 false z)) (X := []) hD hl6 (stars_ixn hL 9 rfl [0, 1, 2, 3, 4, 5, 6, 7, 8] (by decide) rfl)
    have hL : stars [flo o (stM3 g (wtS g.2.2.2.2.1 false)) (wtH g.2.2.2.2.1 false z)] h := hL
    have e4 : s4G g = stM3 g (wtS g.2.2.2.2.1 false) := by rw [s4G, decide_eq_true (show g.2.2.2.1.2.1 1 = 0 by omega)]; rfl
    have e4z : s4H g z = wtH g.2.2.2.2.1 false z := by rw [s4H, decide_eq_true (show g.2.2.2.1.2.1 1 = 0 by omega)]; rfl
    rw [← e4, ← e4z] at hL
    exact e_737 (g := s4G g) (z := s4H g z) (by omega) (by omega) (by rw [s4H, nul_wt hkH]; exact hn) (ok_s4 hB) (fun k a a7 b => Nat.lt_of_lt_of_le (bN_lt7 (bN_lt7 hk) k a a7 b) (by decide)) hk5 hk9 hG hZ hL
  · have k62 := j_eq0_f (a := (g.2.2.2.1.2.1 1)) (by omega) c62
    refine e_iconst 66 (v := (nI 1)) dX11_step_65 rfl (by decide) ?_
    refine e_goto 70 dX11_step_66 rfl ?_
    refine p_callV 73 hL [7, 0, 1, 2, 3, 4, 5, 6, 8] 9 rfl (by decide) (L1 := [mst (F 7) g.2.2.2.2.1 z]) (L2 := [pt o (.inr (9, [.ref (F 0), .ref (F 1), .ref (F 2), .ref (F 3), .ref (F 4), .int (nI DL.length), .ref (F 6), .ref (F 7), .int (nI g.2.2.2.2.2)])), row (F 0) 400 g.1, row (F 1) 253 g.2.1, row (F 2) 253 hr, row (F 3) 253 cm, pt (F 4) (.inl (2, 6, .inr (.inr (.inr (.inr (adD DL)))))), wire (F 6) g.2.2.2.1.1 g.2.2.2.1.2.1 g.2.2.2.1.2.2, lst dve DL]) rfl mst_O 7 rfl dX11_step_70 rfl cv_X11_220 (K_wait1 true (by decide) (fun e he => by have := hB.2.2.2.1.2.1 e he; exact ⟨Nat.lt_trans this.2.2.2.1 (by decide), by have := this.2.2.2.2; omega⟩) (by omega) (by omega) (by omega) (by omega) (by omega)) rfl rfl (Nat.le_of_ble_eq_true rfl) ⟨by decide, by omega, by omega⟩ (fun r1 L1 h q hL => ?_)
    obtain ⟨rfl, rfl⟩ := q
    have hL : stars [mst (F 7) (wtS g.2.2.2.2.1 true) (wtH g.2.2.2.2.1 true z), pt o (.inr (9, [.ref (F 0), .ref (F 1), .ref (F 2), .ref (F 3), .ref (F 4), .int (nI DL.length), .ref (F 6), .ref (F 7), .int (nI g.2.2.2.2.2)])), row (F 0) 400 g.1, row (F 1) 253 g.2.1, row (F 2) 253 hr, row (F 3) 253 cm, pt (F 4) (.inl (2, 6, .inr (.inr (.inr (.inr (adD DL)))))), wire (F 6) g.2.2.2.1.1 g.2.2.2.1.2.1 g.2.2.2.1.2.2, lst dve DL] h := hL
    have hL : stars [pt o (.inr (9, [.ref (F 0), .ref (F 1), .ref (F 2), .ref (F 3), .ref (F 4), .int (nI DL.length), .ref (F 6), .ref (F 7), .int (nI g.2.2.2.2.2)])), row (F 0) 400 g.1, row (F 1) 253 g.2.1, row (F 2) 253 hr, row (F 3) 253 cm, pt (F 4) (.inl (2, 6, .inr (.inr (.inr (.inr (adD DL)))))), wire (F 6) g.2.2.2.1.1 g.2.2.2.1.2.1 g.2.2.2.1.2.2, mst (F 7) (wtS g.2.2.2.2.1 true) (wtH g.2.2.2.2.1 true z), lst dve DL] h := stars_ixn hL 9 rfl [1, 2, 3, 4, 5, 6, 7, 0, 8] (by decide) rfl
    have hL := flo_c (g := (stM3 g (wtS g.2.2.2.2.1 true))) (z := (wtH g.2.2.2.2.1 true z)) (X := []) hD hl6 (stars_ixn hL 9 rfl [0, 1, 2, 3, 4, 5, 6, 7, 8] (by decide) rfl)
    have hL : stars [flo o (stM3 g (wtS g.2.2.2.2.1 true)) (wtH g.2.2.2.2.1 true z)] h := hL
    have e4 : s4G g = stM3 g (wtS g.2.2.2.2.1 true) := by rw [s4G, decide_eq_false (show ¬ g.2.2.2.1.2.1 1 = 0 by omega)]; rfl
    have e4z : s4H g z = wtH g.2.2.2.2.1 true z := by rw [s4H, decide_eq_false (show ¬ g.2.2.2.1.2.1 1 = 0 by omega)]; rfl
    rw [← e4, ← e4z] at hL
    exact e_737 (g := s4G g) (z := s4H g z) (by omega) (by omega) (by rw [s4H, nul_wt hkH]; exact hn) (ok_s4 hB) (fun k a a7 b => Nat.lt_of_lt_of_le (bN_lt7 (bN_lt7 hk) k a a7 b) (by decide)) hk5 hk9 hG hZ hL
set_option maxRecDepth 20000 in
set_option maxHeartbeats 2000000 in
theorem e_147 {o NB : Nat} {g GF : GS} {z ZF : HD} {mc ms ce sl : Nat} (hce : ce + 3 * nul z ≤ mc + 3 * nul (s2H g z)) (hsl : sl + 261 * nul z ≤ ms + 261 * nul (s2H g z)) (hn : nul (s2H g z) ≤ NB) {B : Nat → Nat} (hB : okB B g) (hk : ∀ k, k ≠ 5 → k ≠ 7 → k ≠ 9 → B k < 899970) (hk5 : B 5 < 79999990) (hk9 : B 9 < 90000000) (h910 : B 10 + 30000 ≤ B 9) (hG : s0G (s9G (adR (s5G (s4G (s3G (s2G g)))).2.2.2.1.2.1 (s5G (s4G (s3G (s2G g)))).2.2.2.1.2.2) ((s5G (s4G (s3G (s2G g)))).2.2.2.1.2.1 1) (s8G ((s5G (s4G (s3G (s2G g)))).2.2.2.1.2.1 1) (s7G (adR (s5G (s4G (s3G (s2G g)))).2.2.2.1.2.1 (s5G (s4G (s3G (s2G g)))).2.2.2.1.2.2) ((s5G (s4G (s3G (s2G g)))).2.2.2.1.2.1 1) (s6G (s5G (s4G (s3G (s2G g)))))))) = GF) (hZ : s9H (adR (s5G (s4G (s3G (s2G g)))).2.2.2.1.2.1 (s5G (s4G (s3G (s2G g)))).2.2.2.1.2.2) ((s5G (s4G (s3G (s2G g)))).2.2.2.1.2.1 1) (s8G ((s5G (s4G (s3G (s2G g)))).2.2.2.1.2.1 1) (s7G (adR (s5G (s4G (s3G (s2G g)))).2.2.2.1.2.1 (s5G (s4G (s3G (s2G g)))).2.2.2.1.2.2) ((s5G (s4G (s3G (s2G g)))).2.2.2.1.2.1 1) (s6G (s5G (s4G (s3G (s2G g))))))) (s4H (s3G (s2G g)) (s2H g z)) = ZF) {h : eH} (hL : stars [flo o g z] h) : EE mX11_step 6 200 mc ms (fun r h' => ∃ K, ((r = none ∧ nul ZF ≤ NB) ∧ K = [flo o GF ZF]) ∧ stars K h') 14 [some (.ref o), none, none] [] h ce sl := by
  obtain ⟨⟨m1, m2, m3, m4, m5, m9, m13, m14, m20⟩, -⟩ := hB.2.2.2.1
  obtain ⟨-, ⟨w1, w2, w3, w4, w5, w6, w7, w8, w9, w10⟩, wh, wl⟩ := hB.2.2.1
  have b0 := hk 0 (by decide) (by decide) (by decide)
  have b1 := hk 1 (by decide) (by decide) (by decide)
  have b2 := hk 2 (by decide) (by decide) (by decide)
  have b3 := hk 3 (by decide) (by decide) (by decide)
  have b4 := hk 4 (by decide) (by decide) (by decide)
  have b6 := hk 6 (by decide) (by decide) (by decide)
  have b8 := hk 8 (by decide) (by decide) (by decide)
  have b10 := hk 10 (by decide) (by decide) (by decide)
  have hck := hB.2.2.2.2.1
  have hB2 := ok_s2 hB h910
  have hk2 : ∀ k, k ≠ 5 → k ≠ 7 → k ≠ 9 → bN B 5 8 k < 899970 := fun k a a7 b => by have := hk k a a7 b; unfold bN upN; split <;> omega
  refine e_aload_n 15 dX11_step_14 rfl rfl ?_
  obtain ⟨F, DL, hr, cm, hD, hl6, hL⟩ := flo_o hL
  have hL : stars [pt o (.inr (9, [.ref (F 0), .ref (F 1), .ref (F 2), .ref (F 3), .ref (F 4), .int (nI DL.length), .ref (F 6), .ref (F 7), .int (nI g.2.2.2.2.2)])), row (F 0) 400 g.1, row (F 1) 253 g.2.1, row (F 2) 253 hr, row (F 3) 253 cm, pt (F 4) (.inl (2, 6, .inr (.inr (.inr (.inr (adD DL)))))), wire (F 6) g.2.2.2.1.1 g.2.2.2.1.2.1 g.2.2.2.1.2.2, mst (F 7) g.2.2.2.2.1 z, lst dve DL] h := hL
  refine e_get 18 dX11_step_15 rfl fl_X11_47_9 (stars_at _ 0 hL rfl) rfl ?_
  refine e_aload_n 19 dX11_step_18 rfl rfl ?_
  refine e_get 22 dX11_step_19 rfl fl_X11_51_9 (stars_at _ 0 hL rfl) rfl ?_
  obtain ⟨z1, z2, -, -⟩ := mst_hd _ 7 hL rfl
  have hmo : nul (s2H g z) ≤ nul z := by have := nul_scX (c := g.2.2.2.2.2) (x := (g.2.2.2.2.1, z)) z1 z2 0 g.2.2.2.2.1.2.2.2.1.length; rw [Nat.zero_add] at this; exact this
  refine p_callV 25 hL [7, 0, 1, 2, 3, 4, 5, 6, 8] 9 rfl (by decide) (L1 := [mst (F 7) g.2.2.2.2.1 z]) (L2 := [pt o (.inr (9, [.ref (F 0), .ref (F 1), .ref (F 2), .ref (F 3), .ref (F 4), .int (nI DL.length), .ref (F 6), .ref (F 7), .int (nI g.2.2.2.2.2)])), row (F 0) 400 g.1, row (F 1) 253 g.2.1, row (F 2) 253 hr, row (F 3) 253 cm, pt (F 4) (.inl (2, 6, .inr (.inr (.inr (.inr (adD DL)))))), wire (F 6) g.2.2.2.1.1 g.2.2.2.1.2.1 g.2.2.2.1.2.2, lst dve DL]) rfl mst_O 7 rfl dX11_step_22 rfl cv_X11_208 (K_runScans (mc := 3 * (nul z - nul (s2H g z))) (ms := 261 * (nul z - nul (s2H g z))) (by omega) (fun e he => by have := (hB.2.2.2.1.2.1 e he).2.2.1; omega) (fun e he => by have h9 := hB.2.2.2.1.2.2.2.1 e he; exact ⟨h9.2.1.2, by have := h9.2.2.1.2; omega, by have := h9.2.2.2.2.1; omega, fun k hk => by have := h9.2.2.2.2.2 k hk; omega⟩) (by have := hB.2.2.2.1.2.2.2.2.2.2.2.1; omega) (by show 3 * nul z ≤ 3 * (nul z - nul (s2H g z)) + 3 * nul (s2H g z); omega) (by show 261 * nul z ≤ 261 * (nul z - nul (s2H g z)) + 261 * nul (s2H g z); omega)) rfl rfl (Nat.le_of_ble_eq_true rfl) ⟨by decide, by omega, by omega⟩ (fun r1 L1 h q hL => ?_)
  obtain ⟨rfl, rfl⟩ := q
  have hL : stars [mst (F 7) (scS g.2.2.2.2.2 g.2.2.2.2.1.2.2.2.1.length g.2.2.2.2.1) ((scX g.2.2.2.2.2 g.2.2.2.2.1.2.2.2.1.length (g.2.2.2.2.1, z)).2), pt o (.inr (9, [.ref (F 0), .ref (F 1), .ref (F 2), .ref (F 3), .ref (F 4), .int (nI DL.length), .ref (F 6), .ref (F 7), .int (nI g.2.2.2.2.2)])), row (F 0) 400 g.1, row (F 1) 253 g.2.1, row (F 2) 253 hr, row (F 3) 253 cm, pt (F 4) (.inl (2, 6, .inr (.inr (.inr (.inr (adD DL)))))), wire (F 6) g.2.2.2.1.1 g.2.2.2.1.2.1 g.2.2.2.1.2.2, lst dve DL] h := hL
  have hL : stars [pt o (.inr (9, [.ref (F 0), .ref (F 1), .ref (F 2), .ref (F 3), .ref (F 4), .int (nI DL.length), .ref (F 6), .ref (F 7), .int (nI g.2.2.2.2.2)])), row (F 0) 400 g.1, row (F 1) 253 g.2.1, row (F 2) 253 hr, row (F 3) 253 cm, pt (F 4) (.inl (2, 6, .inr (.inr (.inr (.inr (adD DL)))))), wire (F 6) g.2.2.2.1.1 g.2.2.2.1.2.1 g.2.2.2.1.2.2, mst (F 7) (scS g.2.2.2.2.2 g.2.2.2.2.1.2.2.2.1.length g.2.2.2.2.1) ((scX g.2.2.2.2.2 g.2.2.2.2.1.2.2.2.1.length (g.2.2.2.2.1, z)).2), lst dve DL] h := stars_ixn hL 9 rfl [1, 2, 3, 4, 5, 6, 7, 0, 8] (by decide) rfl
  refine e_aload_n 26 dX11_step_25 rfl rfl ?_
  refine e_get 29 dX11_step_26 rfl fl_X11_40_9 (stars_at _ 0 hL rfl) rfl ?_
  obtain ⟨z29, y29⟩ := wire_rd _ 6 hL rfl 
  refine e_get 32 dX11_step_29 rfl fl_X11_211_8 y29 rfl ?_
  refine e_if_ne 51 35 dX11_step_32 rfl rfl (fun c32 => ?_) (fun c32 => ?_)
  · have k32 := j_ne0_t (a := (g.2.2.2.1.2.1 1)) (by omega) c32
    have hL := flo_c (g := (s2G g)) (z := (s2H g z)) (X := []) hD hl6 (stars_ixn hL 9 rfl [0, 1, 2, 3, 4, 5, 6, 7, 8] (by decide) rfl)
    have hL : stars [flo o (s2G g) (s2H g z)] h := hL
    have e3 : s3G (s2G g) = (s2G g) := by rw [s3G, if_neg (show ¬ ((s2G g).2.2.2.1.2.1 1 = 0 ∧ 14 ≤ (s2G g).2.2.2.1.2.1 2) from fun z9 => k32 z9.1)]
    rw [← e3] at hL
    exact e_517 (g := s3G (s2G g)) (z := (s2H g z)) (by omega) (by omega) hn (ok_s3 hB2) (fun k a a7 b => Nat.lt_of_lt_of_le (bN_lt7 (bN_lt7 hk2) k a a7 b) (by decide)) (show B 5 + 8 < 80000000 by omega) hk9 hG hZ hL
  · have k32 := j_ne0_f (a := (g.2.2.2.1.2.1 1)) (by omega) c32
    refine e_aload_n 36 dX11_step_35 rfl rfl ?_
    refine e_get 39 dX11_step_36 rfl fl_X11_40_9 (stars_at _ 0 hL rfl) rfl ?_
    obtain ⟨z39, y39⟩ := wire_rd _ 6 hL rfl 
    refine e_get 42 dX11_step_39 rfl fl_X11_214_8 y39 rfl ?_
    refine e_bipush 44 (v := (nI 14)) dX11_step_42 rfl (by decide) ?_
    refine e_icmp_lt 51 47 dX11_step_44 rfl rfl (fun c44 => ?_) (fun c44 => ?_)
    · have k44 := j_lt_t (a := (g.2.2.2.1.2.1 2)) (b := 14) (by omega) (by omega) c44
      have hL := flo_c (g := (s2G g)) (z := (s2H g z)) (X := []) hD hl6 (stars_ixn hL 9 rfl [0, 1, 2, 3, 4, 5, 6, 7, 8] (by decide) rfl)
      have hL : stars [flo o (s2G g) (s2H g z)] h := hL
      have e3 : s3G (s2G g) = (s2G g) := by rw [s3G, if_neg (show ¬ ((s2G g).2.2.2.1.2.1 1 = 0 ∧ 14 ≤ (s2G g).2.2.2.1.2.1 2) from fun z9 => by have h8 : 14 ≤ g.2.2.2.1.2.1 2 := z9.2; omega)]
      rw [← e3] at hL
      exact e_517 (g := s3G (s2G g)) (z := (s2H g z)) (by omega) (by omega) hn (ok_s3 hB2) (fun k a a7 b => Nat.lt_of_lt_of_le (bN_lt7 (bN_lt7 hk2) k a a7 b) (by decide)) (show B 5 + 8 < 80000000 by omega) hk9 hG hZ hL
    · have k44 := j_lt_f (a := (g.2.2.2.1.2.1 2)) (b := 14) (by omega) (by omega) c44
      refine e_aload_n 48 dX11_step_47 rfl rfl ?_
      have hL := flo_c (g := (s2G g)) (z := (s2H g z)) (X := []) hD hl6 (stars_ixn hL 9 rfl [0, 1, 2, 3, 4, 5, 6, 7, 8] (by decide) rfl)
      have hL : stars [flo o (s2G g) (s2H g z)] h := hL
      refine p_callV 51 hL [0] 1 rfl (by decide) (L1 := [flo o (s2G g) (s2H g z)]) (L2 := []) rfl flo_O 0 rfl dX11_step_48 rfl cv_X11_217 (K_beginFrame (fun s hs => (hB2.2.1 s hs).1) (by have := hB2.2.2.1.2.1.2.2.2.2.2.2.2.2.2; have : bN B 5 8 4 = B 4 := rfl; omega) (by have := hB2.2.2.2.1.1.1; omega) (fun e he => by have := hB2.2.2.2.1.2.1 e he; exact ⟨Nat.lt_trans this.2.2.2.1 (by decide), this.1⟩)) rfl rfl (Nat.le_of_ble_eq_true rfl) ⟨by decide, by omega, by omega⟩ (fun r1 L1 h q hL => ?_)
      obtain ⟨rfl, rfl⟩ := q
      have hL : stars [flo o (bgG (s2G g)) (s2H g z)] h := hL
      have e3 : s3G (s2G g) = (bgG (s2G g)) := by rw [s3G, if_pos (show (s2G g).2.2.2.1.2.1 1 = 0 ∧ 14 ≤ (s2G g).2.2.2.1.2.1 2 from ⟨k32, k44⟩)]
      rw [← e3] at hL
      exact e_517 (g := s3G (s2G g)) (z := (s2H g z)) (by omega) (by omega) hn (ok_s3 hB2) (fun k a a7 b => Nat.lt_of_lt_of_le (bN_lt7 (bN_lt7 hk2) k a a7 b) (by decide)) (show B 5 + 8 < 80000000 by omega) hk9 hG hZ hL
set_option maxRecDepth 20000 in
set_option maxHeartbeats 2000000 in
theorem k_X11_step7 {o : Nat} {g : GS} {z : HD} {mc ms : Nat} {B : Nat → Nat} (hB : okB B g) (hk : ∀ k, k ≠ 5 → k ≠ 7 → k ≠ 9 → B k < 899970) (hk5 : B 5 < 79999990) (hk9 : B 9 < 90000000) (h910 : B 10 + 30000 ≤ B 9) (hmc : 3 * nul z ≤ mc + 3 * nul (s2H (s1G g) z)) (hms : 261 * nul z ≤ ms + 261 * nul (s2H (s1G g) z)) : CA mX11_step [.ref o] [flo o g z] (fun r K => (r = none ∧ nul (stH g z) ≤ nul (s2H (s1G g) z)) ∧ K = [flo o (stG g) (stH g z)]) 6 200 mc ms := by
  refine CA.mk 2 (ls := [some (.ref o), none, none]) rfl rfl (Nat.le_of_ble_eq_true rfl) rfl (fun h hL => ?_)
  have b10 := hk 10 (by decide) (by decide) (by decide)
  have hck := hB.2.2.2.2.1
  refine e_aload_n 1 dX11_step_0 rfl rfl ?_
  obtain ⟨z1, y1⟩ := flo_rd _ 0 hL rfl 
  refine e_get 4 dX11_step_1 rfl fl_X11_51_9 y1 rfl ?_
  refine e_bipush 6 (v := (nI 20)) dX11_step_4 rfl (by decide) ?_
  refine e_irem 7 (v := (nI (g.2.2.2.2.2 % 20))) dX11_step_6 rfl (by decide) (pk_rem (by omega) (by decide) (by decide)) ?_
  refine e_if_ne 14 10 dX11_step_7 rfl rfl (fun c7 => ?_) (fun c7 => ?_)
  · have k7 := j_ne0_t (a := (g.2.2.2.2.2 % 20)) (by omega) c7
    have e1 : s1G g = g := by rw [s1G, if_neg (show ¬ g.2.2.2.2.2 % 20 = 0 by omega)]
    rw [← e1] at hL
    exact e_147 (g := s1G g) (z := z) (by omega) (by omega) (Nat.le_refl _) (ok_s1 hB) hk hk5 hk9 h910 rfl rfl hL
  · have k7 := j_ne0_f (a := (g.2.2.2.2.2 % 20)) (by omega) c7
    refine e_aload_n 11 dX11_step_10 rfl rfl ?_
    refine p_callV 14 hL [0] 1 rfl (by decide) (L1 := [flo o g z]) (L2 := []) rfl flo_O 0 rfl dX11_step_11 rfl cv_X11_205 (K_applyRules (fun s hs => (hB.2.1 s hs).1)) rfl rfl (Nat.le_of_ble_eq_true rfl) ⟨by decide, by omega, by omega⟩ (fun r1 L1 h q hL => ?_)
    obtain ⟨rfl, rfl⟩ := q
    have hL : stars [flo o (g.1, g.2.1, dvX (fun _ s => arD s) g.2.2.1.length g.2.2.1, g.2.2.2) z] h := hL
    have e1 : s1G g = (g.1, g.2.1, dvX (fun _ s => arD s) g.2.2.1.length g.2.2.1, g.2.2.2) := by rw [s1G, if_pos (show g.2.2.2.2.2 % 20 = 0 by omega)]
    rw [← e1] at hL
    exact e_147 (g := s1G g) (z := z) (by omega) (by omega) (Nat.le_refl _) (ok_s1 hB) hk hk5 hk9 h910 rfl rfl hL
set_option maxRecDepth 20000 in
set_option maxHeartbeats 2000000 in
theorem l_X11_tick7 {o t nt : Nat} {g : GS} {z : HD} (hv : okV (bnd t) g) (ht : t + nt < 800000) (hn1 : nt ≤ 1000) : ∀ (n : Nat) (i : Nat) (ce sl : Nat) (h : eH), nt - i < n → i ≤ nt → ce + 3 * nul (tkN i (g, z)).2 ≤ 144 → sl + 261 * nul (tkN i (g, z)).2 ≤ 12528 → stars [flo o (tkN i (g, z)).1 (tkN i (g, z)).2] h → EE mX11_tick 7 240 144 12528 (fun r h' => ∃ K, (r = some (.int (nI ((tkN nt (g, z)).1.2.2.2.1.2.1 9) - nI (g.2.2.2.1.2.1 9))) ∧ K = [flo o (tkN nt (g, z)).1 (tkN nt (g, z)).2]) ∧ stars K h') 31 [some (.ref o), some (.int (nI nt)), some (.int (nI (g.2.2.2.1.2.1 9))), some (.int (nI i))] [] h ce sl := by
  intro n
  induction n with
  | zero => intro i ce sl h hlt hle hce hsl hL; exact absurd hlt (by omega)
  | succ n ih =>
    intro i ce sl h hlt hle hce hsl hL
    refine e_iload_n 32 dX11_tick_31 rfl rfl ?_
    refine e_iload_n 33 dX11_tick_32 rfl rfl ?_
    refine e_icmp_ge 46 36 dX11_tick_33 rfl rfl (fun c33 => ?_) (fun c33 => ?_)
    · have k33 := j_ge_t (a := i) (b := nt) (by omega) (by omega) c33
      have hin : i = nt := by omega
      subst hin
      obtain ⟨F, DL, hr, cm, hD, hl6, hL⟩ := flo_o hL
      have hL : stars [pt o (.inr (9, [.ref (F 0), .ref (F 1), .ref (F 2), .ref (F 3), .ref (F 4), .int (nI DL.length), .ref (F 6), .ref (F 7), .int (nI (tkN i (g, z)).1.2.2.2.2.2)])), row (F 0) 400 ((tkN i (g, z)).1.1), row (F 1) 253 ((tkN i (g, z)).1.2.1), row (F 2) 253 hr, row (F 3) 253 cm, pt (F 4) (.inl (2, 6, .inr (.inr (.inr (.inr (adD DL)))))), wire (F 6) ((tkN i (g, z)).1.2.2.2.1.1) ((tkN i (g, z)).1.2.2.2.1.2.1) ((tkN i (g, z)).1.2.2.2.1.2.2), mst (F 7) ((tkN i (g, z)).1.2.2.2.2.1) ((tkN i (g, z)).2), lst dve DL] h := hL
      refine e_aload_n 47 dX11_tick_46 rfl rfl ?_
      refine e_get 50 dX11_tick_47 rfl fl_X11_40_9 (stars_at _ 0 hL rfl) rfl ?_
      obtain ⟨z50, y50⟩ := wire_rd _ 6 hL rfl 
      refine e_get 53 dX11_tick_50 rfl fl_X11_199_8 y50 rfl ?_
      refine e_iload_n 54 dX11_tick_53 rfl rfl ?_
      refine e_isub 55 (v := (nI ((tkN i (g, z)).1.2.2.2.1.2.1 9) - nI (g.2.2.2.1.2.1 9))) dX11_tick_54 rfl rfl ?_
      exact e_iret dX11_tick_55 rfl (by omega) (by omega) (⟨_, ⟨rfl, rfl⟩, flo_c (g := (tkN i (g, z)).1) (z := (tkN i (g, z)).2) (X := []) hD hl6 (stars_ixn hL 9 rfl [0, 1, 2, 3, 4, 5, 6, 7, 8] (by decide) rfl)⟩)
    · have k33 := j_ge_f (a := i) (b := nt) (by omega) (by omega) c33
      refine e_aload_n 37 dX11_tick_36 rfl rfl ?_
      have hkH := flo_hk _ 0 hL rfl
      have hmo : nul (s2H (s1G (tkN i (g, z)).1) (tkN i (g, z)).2) ≤ nul (tkN i (g, z)).2 := by have := nul_scX (c := (s1G (tkN i (g, z)).1).2.2.2.2.2) (x := ((s1G (tkN i (g, z)).1).2.2.2.2.1, (tkN i (g, z)).2)) hkH.1 hkH.2.1 0 (s1G (tkN i (g, z)).1).2.2.2.2.1.2.2.2.1.length; rw [Nat.zero_add] at this; exact this
      have hvi := ov_tk hv i
      rw [← tkN_1 (g, z)] at hvi
      obtain ⟨-, bk5, bk9⟩ := bnd_lt (t := t + i) (by omega)
      have bk1 : ∀ k, k ≠ 5 → k ≠ 7 → k ≠ 9 → bnd (t + i) k < 899970 := fun k h5 h7 h9 => by unfold bnd; rw [if_neg h5, if_neg h7, if_neg h9]; omega
      refine p_callV 40 hL [0] 1 rfl (by decide) (L1 := [flo o (tkN i (g, z)).1 (tkN i (g, z)).2]) (L2 := []) rfl flo_O 0 rfl dX11_tick_37 rfl cv_X11_202 (k_X11_step7 (mc := 3 * (nul (tkN i (g, z)).2 - nul (s2H (s1G (tkN i (g, z)).1) (tkN i (g, z)).2))) (ms := 261 * (nul (tkN i (g, z)).2 - nul (s2H (s1G (tkN i (g, z)).1) (tkN i (g, z)).2))) hvi.1 bk1 bk5 bk9 (Nat.le_refl _) (by omega) (by omega)) rfl rfl (Nat.le_of_ble_eq_true rfl) ⟨by decide, by omega, by omega⟩ (fun r1 L1 h q hL => ?_)
      obtain ⟨⟨rfl, hnn⟩, rfl⟩ := q
      have hL : stars [flo o (stG (tkN i (g, z)).1) (stH (tkN i (g, z)).1 (tkN i (g, z)).2)] h := hL
      refine e_iinc 43 (v := (nI (i + 1))) (ls' := [some (.ref o), some (.int (nI nt)), some (.int (nI (g.2.2.2.1.2.1 9))), some (.int (nI (i + 1)))]) dX11_tick_40 rfl rfl (nI_add i 1) (by decide) rfl ?_
      refine e_goto 31 dX11_tick_43 rfl ?_
      exact ih (i + 1) _ _ h (by omega) (by omega) (by show _ + 3 * nul (stH (tkN i (g, z)).1 (tkN i (g, z)).2) ≤ 144; omega) (by show _ + 261 * nul (stH (tkN i (g, z)).1 (tkN i (g, z)).2) ≤ 12528; omega) hL
set_option maxRecDepth 20000 in
set_option maxHeartbeats 2000000 in
theorem k_X11_tick7 {o t nt : Nat} {g : GS} {z : HD} (hv : okV (bnd t) g) (ht : t + nt < 800000) (na : 1 ≤ nt) (nb : nt ≤ 1000) : CA mX11_tick [.ref o, .int (nI nt)] [flo o g z] (fun r K => r = some (.int (nI ((tkN nt (g, z)).1.2.2.2.1.2.1 9) - nI (g.2.2.2.1.2.1 9))) ∧ K = [flo o (tkN nt (g, z)).1 (tkN nt (g, z)).2]) 7 240 144 12528 := by
  refine CA.mk 2 (ls := [some (.ref o), some (.int (nI nt)), none, none]) rfl rfl (Nat.le_of_ble_eq_true rfl) rfl (fun h hL => ?_)
  have hx : inI (nI nt) (nI 1) (nI 1000) = true := by simp only [inI, Bool.and_eq_true, decide_eq_true_eq]; exact ⟨nI_le na (by omega), nI_le nb (by decide)⟩
  refine e_iload_n 1 dX11_tick_0 rfl rfl ?_
  refine e_iconst 2 (v := (nI 1)) dX11_tick_1 rfl (by decide) ?_
  refine e_sipush 5 (v := (nI 1000)) dX11_tick_2 rfl (by decide) ?_
  refine p_callS 8 hL [0] 1 rfl (by decide) (L1 := []) (L2 := [flo o g z]) rfl dX11_tick_5 rfl cs_X11_71 k_X11_withinI rfl rfl (Nat.le_of_ble_eq_true rfl) ⟨by decide, by omega, by omega⟩ (fun r1 L1 h q hL => ?_)
  obtain ⟨rfl, rfl⟩ := q
  have hL : stars [flo o g z] h := hL
  refine e_if_ne 21 11 dX11_tick_8 rfl rfl (fun c8 => ?_) (fun c8 => absurd c8 (by rw [hx]; decide))
  obtain ⟨F, DL, hr, cm, hD, hl6, hL⟩ := flo_o hL
  have hL : stars [pt o (.inr (9, [.ref (F 0), .ref (F 1), .ref (F 2), .ref (F 3), .ref (F 4), .int (nI DL.length), .ref (F 6), .ref (F 7), .int (nI g.2.2.2.2.2)])), row (F 0) 400 g.1, row (F 1) 253 g.2.1, row (F 2) 253 hr, row (F 3) 253 cm, pt (F 4) (.inl (2, 6, .inr (.inr (.inr (.inr (adD DL)))))), wire (F 6) g.2.2.2.1.1 g.2.2.2.1.2.1 g.2.2.2.1.2.2, mst (F 7) g.2.2.2.2.1 z, lst dve DL] h := hL
  refine e_aload_n 22 dX11_tick_21 rfl rfl ?_
  refine e_get 25 dX11_tick_22 rfl fl_X11_40_9 (stars_at _ 0 hL rfl) rfl ?_
  obtain ⟨z25, y25⟩ := wire_rd _ 6 hL rfl 
  refine e_get 28 dX11_tick_25 rfl fl_X11_199_8 y25 rfl ?_
  refine e_istore_n 29 (ls' := [some (.ref o), some (.int (nI nt)), some (.int (nI (g.2.2.2.1.2.1 9))), none]) dX11_tick_28 rfl (by decide) rfl ?_
  refine e_iconst 30 (v := (nI 0)) dX11_tick_29 rfl (by decide) ?_
  refine e_istore_n 31 (ls' := [some (.ref o), some (.int (nI nt)), some (.int (nI (g.2.2.2.1.2.1 9))), some (.int (nI 0))]) dX11_tick_30 rfl (by decide) rfl ?_
  have hL := flo_c (g := g) (z := z) (X := []) hD hl6 (stars_ixn hL 9 rfl [0, 1, 2, 3, 4, 5, 6, 7, 8] (by decide) rfl)
  have hL : stars [flo o g z] h := hL
  have hkH := flo_hk _ 0 hL rfl
  have hn48 := nul_le hkH
  exact l_X11_tick7 (g := g) (z := z) hv ht nb _ 0 _ _ h (Nat.lt_succ_self _) (Nat.zero_le _) (by show _ + 3 * nul z ≤ 144; omega) (by show _ + 261 * nul z ≤ 12528; omega) hL
set_option maxRecDepth 20000 in
set_option maxHeartbeats 2000000 in
theorem bnd_lt27 {t : Nat} (ht : t < 800000) (k : Nat) : bnd t k + 12 < 2 ^ 29 := by
  unfold bnd
  split
  · omega
  · split
    · omega
    · split <;> omega
set_option maxRecDepth 20000 in
set_option maxHeartbeats 2000000 in
theorem l_rtick7 {m t nt : Nat} {F : Nat → Nat} {g : GS} (hv : okV (bnd t) g) (hx : okX g) (ht : t + nt < 800000) (hn1 : nt ≤ 1000) (h6 : g.2.2.1.length ≤ 6) : ∀ (n : Nat) (i : Nat) (lt lf : Nat) (AN PD : List Nat) (DL : List (Nat × DS)) (h : eH), nt - i < n → i ≤ nt → oC (tkGS i g) (List.replicate (6 - g.2.2.1.length) dsZ) lt lf DL → stars (oLg m F (mW g 0 0 0 0) lt lf AN PD DL (rrw (F 14) 8 4 ((tkGS i g).2.2.2.2.1.2.2.2.1.map scE)) (tkGS i g) ++ [iar (F 34) 400 g.1, iar (F 36) 300 g.2.1]) h → EE mX15_tick 8 220 0 0 (fun r h' => ∃ K, (r = some (.int (nI ((tkGS nt g).2.2.2.1.2.1 9) - nI (g.2.2.2.1.2.1 9))) ∧ K = [rfo m (tkGS nt g) 0]) ∧ stars K h') 36 [some (.ref m), some (.int (nI nt)), some (.int (nI (g.2.2.2.1.2.1 9))), some (.int (nI i))] [] h 0 0 := by
  intro n
  induction n with
  | zero => intro i lt lf AN PD DL h hlt hle hc hL; exact absurd hlt (by omega)
  | succ n ih =>
    intro i lt lf AN PD DL h hlt hle hc hL
    have hvi := ov_tk hv i
    obtain ⟨hxi, t1, t2⟩ := tk_x hx hv i (by omega)
    have hl : (tkGS i g).2.2.1.length = g.2.2.1.length := by
      have y := congrArg List.length hc.2.1
      rw [List.length_map, List.length_append, List.length_replicate, hc.1] at y
      omega
    refine e_iload_n 37 dX15_tick_36 rfl rfl ?_
    refine e_iload_n 38 dX15_tick_37 rfl rfl ?_
    refine e_icmp_ge 51 41 dX15_tick_38 rfl rfl (fun c38 => ?_) (fun c38 => ?_)
    · have k38 := j_ge_t (a := i) (b := nt) (by omega) (by omega) c38
      have hin : i = nt := by omega
      subst hin
      refine e_aload_n 52 dX15_tick_51 rfl rfl ?_
      refine e_get 55 (v := .int (nI ((tkGS i g).2.2.2.1.2.1 9))) dX15_tick_52 rfl fl_X15_394_13 (stars_at _ 0 hL rfl) rfl ?_
      refine e_iload_n 56 dX15_tick_55 rfl rfl ?_
      refine e_isub 57 (v := (nI ((tkGS i g).2.2.2.1.2.1 9) - nI (g.2.2.2.1.2.1 9))) dX15_tick_56 rfl rfl ?_
      refine e_iret dX15_tick_57 rfl (by omega) (by omega) ⟨_, ⟨rfl, rfl⟩, ?_⟩
      refine rfo_c (g := (tkGS i g)) (th := 0) (F := F) (lt := lt) (lf := lf) (AN := AN) (PD := PD) (DL := DL) (X := []) ⟨?_, by rw [hl]; exact h6, hc.2.2⟩ ?_
      · rw [hc.2.1, hl]
      · have e := mo_eq (g := (tkGS i g)) (F := F) (w := (mW g 0 0 0 0)) (th := 0) (an := AN.length) (lt := lt) (lf := lf) (bg := decide ((tkGS i g).2.2.2.1.2.1 5 ≠ 0)) rfl hl.symm (congrArg List.length t1.symm) (congrArg List.length t2.symm)
        have hL2 : stars [rmo m F (oW (upN (mW g 0 0 0 0) 4 AN.length) (tkGS i g).2.2.2.1.2.1 lt lf (tkGS i g).2.2.2.1.2.2.length (tkGS i g).2.2.2.1.1.length (tkGS i g).2.2.2.2.2 (tkGS i g).2.2.2.2.1.1) (decide ((tkGS i g).2.2.2.1.2.1 5 ≠ 0)), ar6 (F 1) DL, lst rdve DL, iar (F 3) 300 AN, iar (F 5) 260 PD, rst (F 6) (tkGS i g).2.2.2.2.1.2.2.2.2.1 ((tkGS i g).2.2.2.2.1.1 20) ((tkGS i g).2.2.2.2.1.2.2.2.2.2 1) ((tkGS i g).2.2.2.2.1.2.2.2.2.2 2), rrw (F 12) 16 3 ((tkGS i g).2.2.2.2.1.2.1.map rqE), rrw (F 13) 32 5 ((tkGS i g).2.2.2.2.1.2.2.1.map rsE), rrw (F 14) 8 4 ((tkGS i g).2.2.2.2.1.2.2.2.1.map scE), iar (F 21) 260 (tkGS i g).2.2.2.1.1, iar (F 31) 64 ((tkGS i g).2.2.2.1.2.2.map (·.1)), iar (F 32) 64 ((tkGS i g).2.2.2.1.2.2.map (·.2)), iar (F 34) 400 g.1, iar (F 36) 300 g.2.1] h := stars_ixn hL 14 rfl [0, 3, 4, 1, 2, 5, 6, 7, 8, 9, 10, 11, 12, 13] (by decide) rfl
        rw [← t1, ← t2] at hL2
        unfold rmo at hL2
        rw [e] at hL2
        exact hL2
    · have k38 := j_ge_f (a := i) (b := nt) (by omega) (by omega) c38
      refine e_aload_n 42 dX15_tick_41 rfl rfl ?_
      refine p_callV 45 hL [0, 1, 2, 3, 4, 5, 6, 7, 8, 9, 10, 11, 12, 13] 14 rfl (by decide) (L1 := oLg m F (mW g 0 0 0 0) lt lf AN PD DL (rrw (F 14) 8 4 ((tkGS i g).2.2.2.2.1.2.2.2.1.map scE)) (tkGS i g)) (L2 := [iar (F 34) 400 g.1, iar (F 36) 300 g.2.1]) rfl isO_pt 0 rfl dX15_tick_42 rfl cv_X15_477 (K_oneTick (g := (tkGS i g)) (P := (List.replicate (6 - g.2.2.1.length) dsZ)) hvi hxi (bnd_lt27 (t := t + i) (by omega)) (by show t + i < 900000; omega) (Nat.le_refl _) hl.symm hc) rfl rfl (Nat.le_of_ble_eq_true rfl) ⟨by decide, by omega, by omega⟩ (fun r1 L1 h8 q hL => ?_)
      obtain ⟨rfl, AN9, PD9, DL9, lt9, lf9, c9, rfl⟩ := q
      refine e_iinc 48 (v := (nI (i + 1))) (ls' := [some (.ref m), some (.int (nI nt)), some (.int (nI (g.2.2.2.1.2.1 9))), some (.int (nI (i + 1)))]) dX15_tick_45 rfl rfl (nI_add i 1) (by decide) rfl ?_
      refine e_goto 36 dX15_tick_48 rfl ?_
      exact ih (i + 1) lt9 lf9 AN9 PD9 DL9 h8 (by omega) (by omega) c9 hL
set_option maxRecDepth 20000 in
set_option maxHeartbeats 2000000 in
theorem k_X15_tick7 {m th : Nat} {tp an fr : List Nat} {D : List DS} {wv : Nat → Nat} {hs : List (Nat × Nat)} {v : Nat → Nat} {RQ : List RQE} {RS : List RSE} {SC : List SCE} {er : List Nat} {mb : Nat → Bool} {ck : Nat} {t nt : Nat} (hv : okV (bnd t) (tp, an, D, (fr, wv, hs), (v, RQ, RS, SC, er, mb), ck)) (hx : okX (tp, an, D, (fr, wv, hs), (v, RQ, RS, SC, er, mb), ck)) (ht : t + nt < 800000) (na : 1 ≤ nt) (nb : nt ≤ 1000) : CA mX15_tick [.ref m, .int (nI nt)] [rfo m (tp, an, D, (fr, wv, hs), (v, RQ, RS, SC, er, mb), ck) th] (fun r K => r = some (.int (nI ((tkGS nt (tp, an, D, (fr, wv, hs), (v, RQ, RS, SC, er, mb), ck)).2.2.2.1.2.1 9) - nI (wv 9))) ∧ K = [rfo m (tkGS nt (tp, an, D, (fr, wv, hs), (v, RQ, RS, SC, er, mb), ck)) 0]) 8 220 0 0 := by
  refine CA.mk 2 (ls := [some (.ref m), some (.int (nI nt)), none, none]) rfl rfl (Nat.le_of_ble_eq_true rfl) rfl (fun h hL => ?_)
  obtain ⟨F, lt, lf, AN, PD, DL, hc, hL⟩ := rfo_o hL
  have hL : stars [pt m (.inr (13, moF F (mW (tp, an, D, (fr, wv, hs), (v, RQ, RS, SC, er, mb), ck) th AN.length lt lf) (decide (wv 5 ≠ 0)))), pt (F 1) (.inl (6, 6, .inr (.inr (.inr (.inr (adD DL)))))), lst rdve DL, iar (F 3) 300 AN, iar (F 5) 260 PD, rst (F 6) er (v 20) (mb 1) (mb 2), rrw (F 12) 16 3 (RQ.map rqE), rrw (F 13) 32 5 (RS.map rsE), rrw (F 14) 8 4 (SC.map scE), iar (F 21) 260 fr, iar (F 31) 64 (hs.map (·.1)), iar (F 32) 64 (hs.map (·.2)), iar (F 34) 400 tp, iar (F 36) 300 an] h := hL
  have ltp := (iar_V _ 12 hL rfl).le
  have lan := (iar_V _ 13 hL rfl).le
  have lfr := (iar_V _ 9 hL rfl).le
  have hx9 : inI (nI nt) (nI 1) (nI 1000) = true := by simp only [inI, Bool.and_eq_true, decide_eq_true_eq]; exact ⟨nI_le na (by omega), nI_le nb (by decide)⟩
  refine e_aload_n 1 dX15_tick_0 rfl rfl ?_
  refine e_iload_n 2 dX15_tick_1 rfl rfl ?_
  refine e_iconst 3 (v := (nI 1)) dX15_tick_2 rfl (by decide) ?_
  refine e_sipush 6 (v := (nI 1000)) dX15_tick_3 rfl (by decide) ?_
  refine u_callS 9 dX15_tick_6 rfl cs_X15_81 u_inI rfl rfl (Nat.le_of_ble_eq_true rfl) (by decide) ⟨by omega, by omega⟩ ?_
  refine e_if_eq 16 12 dX15_tick_9 rfl rfl (fun c9 => absurd c9 (by rw [hx9]; decide)) (fun c9 => ?_)
  refine e_iconst 13 (v := (nI 0)) dX15_tick_12 rfl (by decide) ?_
  refine e_goto 17 dX15_tick_13 rfl ?_
  refine p_put 20 hL 0 (fs' := moF F (upN (mW (tp, an, D, (fr, wv, hs), (v, RQ, RS, SC, er, mb), ck) th AN.length lt lf) 0 0) (decide (wv 5 ≠ 0))) (L' := [pt m (.inr (13, moF F (upN (mW (tp, an, D, (fr, wv, hs), (v, RQ, RS, SC, er, mb), ck) th AN.length lt lf) 0 0) (decide (wv 5 ≠ 0)))), pt (F 1) (.inl (6, 6, .inr (.inr (.inr (.inr (adD DL)))))), lst rdve DL, iar (F 3) 300 AN, iar (F 5) 260 PD, rst (F 6) er (v 20) (mb 1) (mb 2), rrw (F 12) 16 3 (RQ.map rqE), rrw (F 13) 32 5 (RS.map rsE), rrw (F 14) 8 4 (SC.map scE), iar (F 21) 260 fr, iar (F 31) 64 (hs.map (·.1)), iar (F 32) 64 (hs.map (·.2)), iar (F 34) 400 tp, iar (F 36) 300 an]) rfl rfl dX15_tick_17 rfl fp_X15_73_13 (Or.inl rfl) (Nat.le_of_ble_eq_true rfl) rfl rfl rfl (fun h hL => ?_)
  refine e_aload_n 21 dX15_tick_20 rfl rfl ?_
  refine e_get 24 (v := (.int (nI 0))) dX15_tick_21 rfl fl_X15_73_13 (stars_at _ 0 hL rfl) rfl ?_
  refine e_if_le 29 27 dX15_tick_24 rfl rfl (fun c24 => ?_) (fun c24 => absurd c24 (by decide))
  refine e_aload_n 30 dX15_tick_29 rfl rfl ?_
  refine e_get 33 (v := (.int (nI (wv 9)))) dX15_tick_30 rfl fl_X15_394_13 (stars_at _ 0 hL rfl) rfl ?_
  refine e_istore_n 34 (ls' := [some (.ref m), some (.int (nI nt)), some (.int (nI (wv 9))), none]) dX15_tick_33 rfl (by decide) rfl ?_
  refine e_iconst 35 (v := (nI 0)) dX15_tick_34 rfl (by decide) ?_
  refine e_istore_n 36 (ls' := [some (.ref m), some (.int (nI nt)), some (.int (nI (wv 9))), some (.int (nI 0))]) dX15_tick_35 rfl (by decide) rfl ?_
  have e9 := mo_eq (g := (tp, an, D, (fr, wv, hs), (v, RQ, RS, SC, er, mb), ck)) (F := F) (w := mW (tp, an, D, (fr, wv, hs), (v, RQ, RS, SC, er, mb), ck) 0 0 0 0) (th := 0) (an := AN.length) (lt := lt) (lf := lf) (bg := decide (wv 5 ≠ 0)) rfl rfl rfl rfl
  refine l_rtick7 (F := F) (g := (tp, an, D, (fr, wv, hs), (v, RQ, RS, SC, er, mb), ck)) hv hx ht nb hc.2.1 _ 0 lt lf AN PD DL h (Nat.lt_succ_self _) (Nat.zero_le _) ⟨?_, hc.1, hc.2.2⟩ ?_
  · have y := congrArg List.length hc.1
    rw [List.length_map, List.length_append, List.length_replicate] at y
    have y2 : D.length ≤ 6 := hc.2.1
    have y3 : DL.length = D.length + (6 - D.length) := y
    omega
  · have hL3 : stars [pt m (.inr (13, moF F (mW (tp, an, D, (fr, wv, hs), (v, RQ, RS, SC, er, mb), ck) 0 AN.length lt lf) (decide (wv 5 ≠ 0)))), iar (F 3) 300 AN, iar (F 5) 260 PD, pt (F 1) (.inl (6, 6, .inr (.inr (.inr (.inr (adD DL)))))), lst rdve DL, rst (F 6) er (v 20) (mb 1) (mb 2), rrw (F 12) 16 3 (RQ.map rqE), rrw (F 13) 32 5 (RS.map rsE), rrw (F 14) 8 4 (SC.map scE), iar (F 21) 260 fr, iar (F 31) 64 (hs.map (·.1)), iar (F 32) 64 (hs.map (·.2)), iar (F 34) 400 tp, iar (F 36) 300 an] h := stars_ixn hL 14 rfl [0, 3, 4, 1, 2, 5, 6, 7, 8, 9, 10, 11, 12, 13] (by decide) rfl
    rw [← e9] at hL3
    exact hL3
