/-! FieldLine: step. First the calls, over states as they stand -/
theorem flo_rd (L : List sA) (i : Nat) {o : Nat} {g : GS} {z : HD} {h : eH} (hL : stars L h) (hi : L[i]? = some (flo o g z)) : ∃ F : Nat → Nat, h o = some (.inr (9, [.ref (F 0), .ref (F 1), .ref (F 2), .ref (F 3), .ref (F 4), .int (nI g.2.2.1.length), .ref (F 6), .ref (F 7), .int (nI g.2.2.2.2.2)])) := by
  obtain ⟨h1, ⟨F, DL, hr, cm, hD, -, p⟩, e⟩ := stars_part L i hL hi
  refine ⟨F, ?_⟩
  rw [gD_len hD]
  exact e _ _ (stars_at _ 0 p rfl)
/-- what the rings hold, told by the heads and the slots -/
def hokH (s : MS) (z : HD) : Prop := z.2.2.1.length = 16 ∧ z.1 < 16 ∧ z.2.2.2.length = 32 ∧ z.2.1 < 32 ∧ (0 < s.2.1.length → z.2.2.1.getD z.1 false = true)
theorem mst_hk (L : List sA) (i : Nat) {m : Nat} {s : MS} {z : HD} {h : eH} (hL : stars L h) (hi : L[i]? = some (mst m s z)) : hokH s z := by
  obtain ⟨h1, ⟨A, L1, L2, K, hR, -⟩, -⟩ := stars_part L i hL hi
  refine ⟨?_, hR.1.2.1, ?_, hR.2.1.2.1, fun h0 => ?_⟩
  · rw [← hR.2.2.1, List.length_map]; exact hR.1.1
  · rw [← hR.2.2.2.1, List.length_map]; exact hR.2.1.1
  · obtain ⟨j, hj⟩ := ring_hd hR.1 h0
    rw [map_get hR.2.2.1 hj]
    rfl
theorem flo_hk (L : List sA) (i : Nat) {o : Nat} {g : GS} {z : HD} {h : eH} (hL : stars L h) (hi : L[i]? = some (flo o g z)) : hokH g.2.2.2.2.1 z := by
  obtain ⟨h1, ⟨F, DL, hr, cm, hD, -, p⟩, -⟩ := stars_part L i hL hi
  exact mst_hk _ 7 p rfl
theorem nul_fl {s : MS} {z : HD} (hk : hokH s z) (h0 : 0 < s.2.1.length) : nul (flH s z) = nul z := by
  unfold flH
  split
  · exact nul_fn hk.1 hk.2.2.1 hk.2.1 (hk.2.2.2.2 h0)
  · rfl
theorem nul_wt {s : MS} {z : HD} {sb : Bool} (hk : hokH s z) : nul (wtH s sb z) = nul z := by
  unfold wtH
  split
  · rename_i y
    split
    · split
      · exact nul_fn hk.1 hk.2.2.1 hk.2.1 (hk.2.2.2.2 y.2)
      · rfl
    · split
      · exact nul_fl (s := wt1 s) hk y.2
      · rfl
  · rfl
theorem nul_tf {s : MS} {z : HD} (hk : hokH s z) (he : ∀ x ∈ s.2.2.2.2.1, x < 256) (hl : s.2.2.2.2.1.length ≤ 256) : nul (tfH s z) = nul z := by
  obtain ⟨-, -, -, -, k5, -⟩ := tfK_lt he hl
  unfold tfH
  split
  · rfl
  · rename_i y
    split
    · exact nul_fl hk (k5 y)
    · exact nul_fn hk.1 hk.2.2.1 hk.2.1 (hk.2.2.2.2 (k5 y))
theorem nul_si {s : MS} {z : HD} {who : Nat} (hk : hokH s z) (he : ∀ x ∈ s.2.2.2.2.1, x < 256) (hl : s.2.2.2.2.1.length ≤ 256) : nul (siH who s z) = nul z := by
  unfold siH
  split
  · rfl
  · split
    · exact nul_tf (s := tqM s) hk he hl
    · rfl
theorem K_applyRules {o : Nat} {g : GS} {z : HD} (hok : ∀ s ∈ g.2.2.1, okD s) : CA mX11_applyRules [.ref o] [flo o g z] (fun r K => r = none ∧ K = [flo o (g.1, g.2.1, dvX (fun _ s => arD s) g.2.2.1.length g.2.2.1, g.2.2.2) z]) 4 100 0 0 := by
  obtain ⟨tp, an, D, ⟨fr, wv, hs⟩, M, ck⟩ := g
  exact k_X11_applyRules hok
theorem K_shortenLags {o : Nat} {g : GS} {z : HD} (hok : ∀ s ∈ g.2.2.1, okD s) : CA mX11_shortenLags [.ref o] [flo o g z] (fun r K => r = none ∧ K = [flo o (s5G g) z]) 1 30 0 0 := by
  obtain ⟨tp, an, D, ⟨fr, wv, hs⟩, M, ck⟩ := g
  exact k_X11_shortenLags hok
theorem K_beginFrame {o : Nat} {g : GS} {z : HD} (hok : ∀ s ∈ g.2.2.1, okD s) (h10 : g.2.2.2.1.2.1 10 < 1000000) (hv1 : g.2.2.2.2.1.1 1 < 1000) (hQ : ∀ e ∈ g.2.2.2.2.1.2.1, e.2.2.1 < 1000 ∧ ∀ x ∈ e.1, x < 256) : CA mX11_beginFrame [.ref o] [flo o g z] (fun r K => r = none ∧ K = [flo o (bgG g) z]) 2 60 0 0 := by
  obtain ⟨tp, an, D, ⟨fr, wv, hs⟩, ⟨v, RQ, RS, SC, er, B⟩, ck⟩ := g
  obtain ⟨h1, h2, N1, N2⟩ := z
  exact k_X11_beginFrame hok h10 hv1 hQ
theorem K_spread {o who b : Nat} {g : GS} {z : HD} (hw : who < 1000) (hv20 : g.2.2.2.2.1.1 20 < 1000000) (hq20 : ∀ s ∈ g.2.2.1, s.1 20 < 1000000) (hok : ∀ s ∈ g.2.2.1, okD s) : CA mX11_spread [.ref o, .int (nI who), .int (nI b)] [flo o g z] (fun r K => r = none ∧ K = [flo o (g.1, g.2.1, spD who b g.2.2.1, g.2.2.2.1, spM who b g.2.2.2.2.1, g.2.2.2.2.2) z]) 2 60 0 0 := by
  obtain ⟨tp, an, D, ⟨fr, wv, hs⟩, ⟨v, RQ, RS, SC, er, B⟩, ck⟩ := g
  obtain ⟨h1, h2, N1, N2⟩ := z
  exact k_X11_spread hw hv20 hq20 hok
theorem K_silence {o who : Nat} {g : GS} {z : HD} (hw : who < 1000) (hv20 : g.2.2.2.2.1.1 20 < 1000000) (hq20 : ∀ s ∈ g.2.2.1, s.1 20 < 1000000) (hok : ∀ s ∈ g.2.2.1, okD s) (hQ : ∀ e ∈ g.2.2.2.2.1.2.1, (e.2.2.1 < 1000 ∧ e.2.2.2 < 100000000) ∧ (∀ x ∈ e.1, x < 256) ∧ 1 ≤ e.1.length) (he : ∀ x ∈ g.2.2.2.2.1.2.2.2.2.1, x < 256) (hp1 : g.2.2.2.2.1.1 1 < 1000) (h3 : g.2.2.2.2.1.1 3 < 1000) : CA mX11_silence [.ref o, .int (nI who)] [flo o g z] (fun r K => r = none ∧ K = [flo o (g.1, g.2.1, sdD who g.2.2.1, g.2.2.2.1, siM who g.2.2.2.2.1, g.2.2.2.2.2) (siH who g.2.2.2.2.1 z)]) 5 150 0 0 := by
  obtain ⟨tp, an, D, ⟨fr, wv, hs⟩, ⟨v, RQ, RS, SC, er, B⟩, ck⟩ := g
  obtain ⟨h1, h2, N1, N2⟩ := z
  exact k_X11_silence hw hv20 hq20 hok hQ he hp1 h3
theorem K_runScans {m c mc ms : Nat} {s : MS} {z : HD} (hc : c < 1000000) (hQ : ∀ e ∈ s.2.1, e.2.1 < 100000000) (hS : ∀ e ∈ s.2.2.2.1, e.1.length ≤ 253 ∧ e.2.1 < 100000 ∧ e.2.2.2.1 < 100000000 ∧ ∀ k, e.2.2.2.2 = some k → k < 100000000) (hv9 : s.1 9 + (s.2.2.2.1.length - 0) ≤ 90000000) (hce : 3 * nul z ≤ mc + 3 * nul (scX c s.2.2.2.1.length (s, z)).2) (hsl : 261 * nul z ≤ ms + 261 * nul (scX c s.2.2.2.1.length (s, z)).2) : CA mX3_runScans [.ref m, .int (nI c)] [mst m s z] (fun r K => r = none ∧ K = [mst m (scS c s.2.2.2.1.length s) (scX c s.2.2.2.1.length (s, z)).2]) 4 100 mc ms := by
  obtain ⟨v, RQ, RS, SC, er, B⟩ := s
  obtain ⟨h1, h2, N1, N2⟩ := z
  have k := k_X3_runScans (m := m) (v := v) (RQ := RQ) (RS := RS) (SC := SC) (er := er) (B := B) (h1 := h1) (h2 := h2) (N1 := N1) (N2 := N2) hc hQ hS hv9 hce hsl
  rw [scX_S] at k
  exact k
theorem K_wait {m : Nat} {s : MS} {z : HD} {sb : Bool} (hQ : ∀ e ∈ s.2.1, e.2.2.1 < 1000 ∧ e.2.2.2 < 100000000) (hp1 : s.1 1 < 1000) (h3 : s.1 3 < 1000) (hv4 : s.1 4 < 100000) (hv5 : s.1 5 < 100000) (hv2 : s.1 2 < 100000000) : CA mX3_waitOneTick [.ref m, .int (bI sb)] [mst m s z] (fun r K => r = none ∧ K = [mst m (wtS s sb) (wtH s sb z)]) 3 78 0 0 := by
  obtain ⟨v, RQ, RS, SC, er, B⟩ := s
  obtain ⟨h1, h2, N1, N2⟩ := z
  exact k_X3_waitOneTick hQ hp1 h3 hv4 hv5 hv2
theorem K_startWaiting {m : Nat} {s : MS} {z : HD} : CA mX3_startWaiting [.ref m] [mst m s z] (fun r K => r = none ∧ K = [mst m (swM s) z]) 0 0 0 0 := by
  intro h hL
  obtain ⟨A, L1, L2, K, hR, hL⟩ := mst_o hL
  refine CA.to (CA.frame _ (k_X3_startWaiting (m := m) (A := A) (v := s.1) (h1 := z.1) (n1 := s.2.1.length) (h2 := z.2.1) (n2 := s.2.2.1.length) (n3 := K.length))) ?_ h hL
  rintro r K9 h9 ⟨K1, ⟨rfl, rfl⟩, rfl⟩ k
  exact ⟨_, ⟨rfl, rfl⟩, mst_c (s := swM s) (z := z) (X := []) hR k⟩
set_option maxRecDepth 20000 in
set_option maxHeartbeats 2000000 in
theorem e_141 {o NB : Nat} {g GF : GS} {z ZF : HD} {mc ms ce sl : Nat} (hce : ce ≤ mc) (hsl : sl ≤ ms) (hn : nul z ≤ NB) (hG : s0G g = GF) (hZ : z = ZF) {h : eH} (hL : stars [flo o g z] h) : EE mX11_step 6 200 mc ms (fun r h' => ∃ K, ((r = none ∧ nul ZF ≤ NB) ∧ K = [flo o GF ZF]) ∧ stars K h') 141 [some (.ref o), none, none] [] h ce sl := by
  refine e_aload_n 142 dX11_step_141 rfl rfl ?_
  obtain ⟨F, DL, hr, cm, hD, hl6, hL⟩ := flo_o hL
  have hL : stars [pt o (.inr (9, [.ref (F 0), .ref (F 1), .ref (F 2), .ref (F 3), .ref (F 4), .int (nI DL.length), .ref (F 6), .ref (F 7), .int (nI g.2.2.2.2.2)])), row (F 0) 400 g.1, row (F 1) 253 g.2.1, row (F 2) 253 hr, row (F 3) 253 cm, pt (F 4) (.inl (2, 6, .inr (.inr (.inr (.inr (adD DL)))))), wire (F 6) g.2.2.2.1.1 g.2.2.2.1.2.1 g.2.2.2.1.2.2, mst (F 7) g.2.2.2.2.1 z, lst dve DL] h := hL
  refine e_dup 143 dX11_step_142 rfl rfl ?_
  refine e_get 146 dX11_step_143 rfl fl_X11_51_9 (stars_at _ 0 hL rfl) rfl ?_
  refine e_iconst 147 (v := (nI 1)) dX11_step_146 rfl (by decide) ?_
  refine e_iadd 148 (v := (nI (g.2.2.2.2.2 + 1))) dX11_step_147 rfl (nI_add g.2.2.2.2.2 1) ?_
  refine p_put 151 hL 0 (fs' := [.ref (F 0), .ref (F 1), .ref (F 2), .ref (F 3), .ref (F 4), .int (nI DL.length), .ref (F 6), .ref (F 7), .int (nI (g.2.2.2.2.2 + 1))]) (L' := [pt o (.inr (9, [.ref (F 0), .ref (F 1), .ref (F 2), .ref (F 3), .ref (F 4), .int (nI DL.length), .ref (F 6), .ref (F 7), .int (nI (g.2.2.2.2.2 + 1))])), row (F 0) 400 g.1, row (F 1) 253 g.2.1, row (F 2) 253 hr, row (F 3) 253 cm, pt (F 4) (.inl (2, 6, .inr (.inr (.inr (.inr (adD DL)))))), wire (F 6) g.2.2.2.1.1 g.2.2.2.1.2.1 g.2.2.2.1.2.2, mst (F 7) g.2.2.2.2.1 z, lst dve DL]) rfl rfl dX11_step_148 rfl fp_X11_51_9 (Or.inl rfl) (Nat.le_of_ble_eq_true rfl) rfl rfl rfl (fun h hL => ?_)
  exact e_vret dX11_step_151 rfl (by omega) (by omega) (⟨_, ⟨⟨rfl, by rw [← hZ]; exact hn⟩, rfl⟩, by rw [← hG, ← hZ]; exact flo_c (g := s0G g) (z := z) (X := []) hD hl6 (stars_ixn hL 9 rfl [0, 1, 2, 3, 4, 5, 6, 7, 8] (by decide) rfl)⟩)
set_option maxRecDepth 20000 in
set_option maxHeartbeats 2000000 in
theorem e_132 {o NB : Nat} {g GF : GS} {z ZF : HD} {mc ms ce sl : Nat} (hce : ce ≤ mc) (hsl : sl ≤ ms) (hn : nul z ≤ NB) {B : Nat → Nat} (hB : okB B g) (hk : ∀ k, k ≠ 5 → k ≠ 9 → B k < 900000) (hk5 : B 5 < 80000000) (hk9 : B 9 < 90000000) {who did : Nat} (hw : who < 1000) (hdd : did < 1000) (hG : s0G (s9G did who g) = GF) (hZ : s9H did who g z = ZF) {h : eH} (hL : stars [flo o g z] h) : EE mX11_step 6 200 mc ms (fun r h' => ∃ K, ((r = none ∧ nul ZF ≤ NB) ∧ K = [flo o GF ZF]) ∧ stars K h') 132 [some (.ref o), some (.int (nI who)), some (.int (nI did))] [] h ce sl := by
  obtain ⟨⟨m1, m2, m3, m4, m5, m9, m13, m14, m20⟩, -⟩ := hB.2.2.2.1
  obtain ⟨-, ⟨w1, w2, w3, w4, w5, w6, w7, w8, w9, w10⟩, wh, wl⟩ := hB.2.2.1
  have b0 := hk 0 (by decide) (by decide)
  have b1 := hk 1 (by decide) (by decide)
  have b2 := hk 2 (by decide) (by decide)
  have b3 := hk 3 (by decide) (by decide)
  have b4 := hk 4 (by decide) (by decide)
  have b6 := hk 6 (by decide) (by decide)
  have b7 := hk 7 (by decide) (by decide)
  have b10 := hk 10 (by decide) (by decide)
  have hck := hB.2.2.2.2.1
  have hkH := flo_hk _ 0 hL rfl
  refine e_iload_n 133 dX11_step_132 rfl rfl ?_
  refine e_if_ne 141 136 dX11_step_133 rfl rfl (fun c133 => ?_) (fun c133 => ?_)
  · have k133 := j_ne0_t (a := did) (by omega) c133
    refine e_wk [some (.ref o), none, none] ⟨rfl, trivial⟩ ?_
    exact e_141 (by omega) (by omega) hn (by rw [← hG, s9G, if_neg (show ¬ did = 0 by omega)]) (by rw [← hZ, s9H, if_neg (show ¬ did = 0 by omega)]) hL
  · have k133 := j_ne0_f (a := did) (by omega) c133
    refine e_aload_n 137 dX11_step_136 rfl rfl ?_
    refine e_iload_n 138 dX11_step_137 rfl rfl ?_
    refine p_callV 141 hL [0] 1 rfl (by decide) (L1 := [flo o g z]) (L2 := []) rfl flo_O 0 rfl dX11_step_138 rfl cv_X11_239 (K_silence hw (by omega) (fun s hs => by have := (hB.2.1 s hs).2; omega) (fun s hs => (hB.2.1 s hs).1) (fun e he => by have := hB.2.2.2.1.2.1 e he; exact ⟨⟨Nat.lt_trans this.2.2.2.1 (by decide), by have := this.2.2.2.2; omega⟩, this.1, this.2.1.1⟩) hB.2.2.2.1.2.2.2.2.1 (by omega) (by omega)) rfl rfl (Nat.le_of_ble_eq_true rfl) ⟨by decide, by omega, by omega⟩ (fun r1 L1 h q hL => ?_)
    obtain ⟨rfl, rfl⟩ := q
    have hL : stars [flo o (g.1, g.2.1, sdD who g.2.2.1, g.2.2.2.1, siM who g.2.2.2.2.1, g.2.2.2.2.2) (siH who g.2.2.2.2.1 z)] h := hL
    refine e_wk [some (.ref o), none, none] ⟨rfl, trivial⟩ ?_
    exact e_141 (by omega) (by omega) (by rw [nul_si hkH hB.2.2.2.1.2.2.2.2.1 hB.2.2.2.1.2.2.2.2.2.2.2.2]; exact hn) (by rw [← hG, s9G, if_pos (show did = 0 by omega)]) (by rw [← hZ, s9H, if_pos (show did = 0 by omega)]) hL
set_option maxRecDepth 20000 in
set_option maxHeartbeats 2000000 in
theorem e_110 {o NB : Nat} {g GF : GS} {z ZF : HD} {mc ms ce sl : Nat} (hce : ce ≤ mc) (hsl : sl ≤ ms) (hn : nul z ≤ NB) {B : Nat → Nat} (hB : okB B g) (hk : ∀ k, k ≠ 5 → k ≠ 9 → B k < 900000) (hk5 : B 5 < 80000000) (hk9 : B 9 < 90000000) {who did : Nat} (hw : who < 1000) (hdd : did < 1000) (hG : s0G (s9G did who (s8G who g)) = GF) (hZ : s9H did who (s8G who g) z = ZF) {h : eH} (hL : stars [flo o g z] h) : EE mX11_step 6 200 mc ms (fun r h' => ∃ K, ((r = none ∧ nul ZF ≤ NB) ∧ K = [flo o GF ZF]) ∧ stars K h') 110 [some (.ref o), some (.int (nI who)), some (.int (nI did))] [] h ce sl := by
  obtain ⟨⟨m1, m2, m3, m4, m5, m9, m13, m14, m20⟩, -⟩ := hB.2.2.2.1
  obtain ⟨-, ⟨w1, w2, w3, w4, w5, w6, w7, w8, w9, w10⟩, wh, wl⟩ := hB.2.2.1
  have b0 := hk 0 (by decide) (by decide)
  have b1 := hk 1 (by decide) (by decide)
  have b2 := hk 2 (by decide) (by decide)
  have b3 := hk 3 (by decide) (by decide)
  have b4 := hk 4 (by decide) (by decide)
  have b6 := hk 6 (by decide) (by decide)
  have b7 := hk 7 (by decide) (by decide)
  have b10 := hk 10 (by decide) (by decide)
  have hck := hB.2.2.2.2.1
  refine e_iload_n 111 dX11_step_110 rfl rfl ?_
  refine e_iconst 112 (v := (nI 1)) dX11_step_111 rfl (by decide) ?_
  refine e_icmp_ne 132 115 dX11_step_112 rfl rfl (fun c112 => ?_) (fun c112 => ?_)
  · have k112 := j_ne_t (a := who) (b := 1) (by omega) (by omega) c112
    have e9 : s8G who g = g := by rw [s8G, if_neg (show ¬ (who = 1 ∧ g.2.2.2.1.2.1 1 = 0) from fun z9 => by omega)]
    exact e_132 (g := g) (by omega) (by omega) hn (by rw [← e9]; exact ok_s8 hB) hk hk5 hk9 hw hdd (by rw [← hG, e9]) (by rw [← hZ, e9]) hL
  · have k112 := j_ne_f (a := who) (b := 1) (by omega) (by omega) c112
    obtain ⟨F, DL, hr, cm, hD, hl6, hL⟩ := flo_o hL
    have hL : stars [pt o (.inr (9, [.ref (F 0), .ref (F 1), .ref (F 2), .ref (F 3), .ref (F 4), .int (nI DL.length), .ref (F 6), .ref (F 7), .int (nI g.2.2.2.2.2)])), row (F 0) 400 g.1, row (F 1) 253 g.2.1, row (F 2) 253 hr, row (F 3) 253 cm, pt (F 4) (.inl (2, 6, .inr (.inr (.inr (.inr (adD DL)))))), wire (F 6) g.2.2.2.1.1 g.2.2.2.1.2.1 g.2.2.2.1.2.2, mst (F 7) g.2.2.2.2.1 z, lst dve DL] h := hL
    refine e_aload_n 116 dX11_step_115 rfl rfl ?_
    refine e_get 119 dX11_step_116 rfl fl_X11_40_9 (stars_at _ 0 hL rfl) rfl ?_
    obtain ⟨z119, y119⟩ := wire_rd _ 6 hL rfl 
    refine e_get 122 dX11_step_119 rfl fl_X11_211_8 y119 rfl ?_
    refine e_if_ne 132 125 dX11_step_122 rfl rfl (fun c122 => ?_) (fun c122 => ?_)
    · have k122 := j_ne0_t (a := (g.2.2.2.1.2.1 1)) (by omega) c122
      have hL := flo_c (g := g) (z := z) (X := []) hD hl6 (stars_ixn hL 9 rfl [0, 1, 2, 3, 4, 5, 6, 7, 8] (by decide) rfl)
      have hL : stars [flo o g z] h := hL
      have e9 : s8G who g = g := by rw [s8G, if_neg (show ¬ (who = 1 ∧ g.2.2.2.1.2.1 1 = 0) from fun z9 => by omega)]
      exact e_132 (g := g) (by omega) (by omega) hn (by rw [← e9]; exact ok_s8 hB) hk hk5 hk9 hw hdd (by rw [← hG, e9]) (by rw [← hZ, e9]) hL
    · have k122 := j_ne0_f (a := (g.2.2.2.1.2.1 1)) (by omega) c122
      refine e_aload_n 126 dX11_step_125 rfl rfl ?_
      refine e_get 129 dX11_step_126 rfl fl_X11_47_9 (stars_at _ 0 hL rfl) rfl ?_
      refine p_callV 132 hL [7, 0, 1, 2, 3, 4, 5, 6, 8] 9 rfl (by decide) (L1 := [mst (F 7) g.2.2.2.2.1 z]) (L2 := [pt o (.inr (9, [.ref (F 0), .ref (F 1), .ref (F 2), .ref (F 3), .ref (F 4), .int (nI DL.length), .ref (F 6), .ref (F 7), .int (nI g.2.2.2.2.2)])), row (F 0) 400 g.1, row (F 1) 253 g.2.1, row (F 2) 253 hr, row (F 3) 253 cm, pt (F 4) (.inl (2, 6, .inr (.inr (.inr (.inr (adD DL)))))), wire (F 6) g.2.2.2.1.1 g.2.2.2.1.2.1 g.2.2.2.1.2.2, lst dve DL]) rfl mst_O 7 rfl dX11_step_129 rfl cv_X11_236 K_startWaiting rfl rfl (Nat.le_of_ble_eq_true rfl) ⟨by decide, by omega, by omega⟩ (fun r1 L1 h q hL => ?_)
      obtain ⟨rfl, rfl⟩ := q
      have hL : stars [mst (F 7) (swM g.2.2.2.2.1) z, pt o (.inr (9, [.ref (F 0), .ref (F 1), .ref (F 2), .ref (F 3), .ref (F 4), .int (nI DL.length), .ref (F 6), .ref (F 7), .int (nI g.2.2.2.2.2)])), row (F 0) 400 g.1, row (F 1) 253 g.2.1, row (F 2) 253 hr, row (F 3) 253 cm, pt (F 4) (.inl (2, 6, .inr (.inr (.inr (.inr (adD DL)))))), wire (F 6) g.2.2.2.1.1 g.2.2.2.1.2.1 g.2.2.2.1.2.2, lst dve DL] h := hL
      have hL : stars [pt o (.inr (9, [.ref (F 0), .ref (F 1), .ref (F 2), .ref (F 3), .ref (F 4), .int (nI DL.length), .ref (F 6), .ref (F 7), .int (nI g.2.2.2.2.2)])), row (F 0) 400 g.1, row (F 1) 253 g.2.1, row (F 2) 253 hr, row (F 3) 253 cm, pt (F 4) (.inl (2, 6, .inr (.inr (.inr (.inr (adD DL)))))), wire (F 6) g.2.2.2.1.1 g.2.2.2.1.2.1 g.2.2.2.1.2.2, mst (F 7) (swM g.2.2.2.2.1) z, lst dve DL] h := stars_ixn hL 9 rfl [1, 2, 3, 4, 5, 6, 7, 0, 8] (by decide) rfl
      have hL := flo_c (g := (stM3 g (swM g.2.2.2.2.1))) (z := z) (X := []) hD hl6 (stars_ixn hL 9 rfl [0, 1, 2, 3, 4, 5, 6, 7, 8] (by decide) rfl)
      have hL : stars [flo o (stM3 g (swM g.2.2.2.2.1)) z] h := hL
      have e9 : s8G who g = (stM3 g (swM g.2.2.2.2.1)) := by rw [s8G, if_pos (show who = 1 ∧ g.2.2.2.1.2.1 1 = 0 from ⟨by omega, by omega⟩)]
      exact e_132 (g := (stM3 g (swM g.2.2.2.2.1))) (by omega) (by omega) hn (by rw [← e9]; exact ok_s8 hB) hk hk5 hk9 hw hdd (by rw [← hG, e9]) (by rw [← hZ, e9]) hL
