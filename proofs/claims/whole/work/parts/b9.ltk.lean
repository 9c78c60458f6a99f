/-! tick and data of the law, and the rule for calling them -/
abbrev mL_tick : MD := (yL_tick, cL_tick, 4, some .int)
abbrev mL_data : MD := (yL_data, cL_data, 4, some .int)
def CAW (M : MD) (hh : List (Nat × Nat × Nat × Nat)) (av : List Value) (L : List sA) (Q : Option Value → List sA → Prop) (fr lo mc ms : Nat) : Prop := ∀ h, stars L h → CtW M hh av h (fun r h' => ∃ L', Q r L' ∧ stars L' h') fr lo mc ms
def CSW (own : String) (index : Nat) (M' : MD) (hh : List (Nat × Nat × Nat × Nat)) (n : Nat) : Prop := (Cond.codeWith M'.1 M'.2.1 M'.2.2.1 M'.2.2.2 hh ∈ gw ∧ Cond.static M'.1 ∈ gw ∧ Cond.initialized M'.1.cls ∈ gw ∧ (M'.1.cls ≠ "java/lang/invoke/MethodHandle" ∧ M'.1.cls ≠ "java/lang/invoke/VarHandle" ∧ (parseMethodDescriptor M'.1.desc).map (fun d => d.parameters.length) = some n)) ∧ Cond.methodLink own index M'.1 ∈ gw
theorem cw_L_116 : CSW RL 116 mL_tick [(0, 9, 12, 13)] 3 := ⟨⟨by decide +kernel, by decide +kernel, by decide +kernel, by decide +kernel, by decide +kernel, by decide +kernel⟩, by decide +kernel⟩
theorem cw_L_129 : CSW RL 129 mL_data [(0, 9, 12, 18)] 3 := ⟨⟨by decide +kernel, by decide +kernel, by decide +kernel, by decide +kernel, by decide +kernel, by decide +kernel⟩, by decide +kernel⟩
theorem lk_L_7 : Cond.methodLink RL 7 yX11_tick ∈ gw := by decide +kernel
theorem lk_L_15 : Cond.methodLink RL 15 yX11_data ∈ gw := by decide +kernel
theorem ck_L_13 : Cond.classLink RL 13 "java/lang/IllegalArgumentException" ∈ gw := by decide +kernel
theorem ck_L_18 : Cond.classLink RL 18 "java/lang/IndexOutOfBoundsException" ∈ gw := by decide +kernel
theorem ca_IAE : Cond.castable "java/lang/IllegalArgumentException" "java/lang/IllegalArgumentException" ∈ kxw := by decide +kernel
theorem ca_IOB : Cond.castable "java/lang/IndexOutOfBoundsException" "java/lang/IndexOutOfBoundsException" ∈ kxw := by decide +kernel
theorem e_goodW (M' : MD) (hh : List (Nat × Nat × Nat × Nat)) (hc : Cond.codeWith M'.1 M'.2.1 M'.2.2.1 M'.2.2.2 hh ∈ gw) : GoodIn gw (e_wsW M' hh) := by
  intro w hw
  rcases List.mem_cons.mp hw with rfl | hw
  · exact ⟨hc, good_of_word (gw_good hc)⟩
  · exact ⟨hw, good_of_word (gw_good hw)⟩
theorem sp_callSW {PP : PC9} {FF : FC9} {M : MD} {fr lo mc ms : Nat} {pc ce sl : Nat} {ls : List (Option Value)} {st : List Value} {h : eH} (np : Nat) {L L1 L2 : List sA} (hL : stars L h) (is : List Nat) (n9 : Nat) (hn9 : L.length = n9) (hp : is.isPerm (List.range n9) = true) (hs : is.filterMap (fun i => L[i]?) = L1 ++ L2) (hlaw : notLaw M.1 = false) {index n fr' lo' mc' ms' : Nat} {M' : MD} {hh : List (Nat × Nat × Nat × Nat)} {av st0 : List Value} {Q' : Option Value → List sA → Prop} (hd : decode M.2.1 pc = .ok (.invokestatic index, 3)) (hn : pc + 3 = np) (hC : CSW M.1.cls index M' hh n) (hM : CAW M' hh av L1 Q' fr' lo' mc' ms') (hlen : av.length = n) (hst : st0 = av.reverse ++ st) (hcat : (st.map fun v => v.category).sum ≤ 8) (hR : (fr' + 1 ≤ fr ∧ 8 + (M'.2.2.1 + 11) + lo' ≤ lo) ∧ ce + mc' ≤ mc ∧ sl + ms' ≤ ms) (kk : ∀ (r : Option Value) (L1' : List sA) (h' : eH), Q' r L1' → stars (L1' ++ L2) h' → ES PP FF M fr lo mc ms np ls (r.toList ++ st) h' (ce + mc') (sl + ms')) : ES PP FF M fr lo mc ms pc ls st0 h ce sl := by
  obtain ⟨h1, h2, hu, hj, k1, k2⟩ := (stars_app L1 L2).mp (stars_ix hL is (by rw [hn9]; exact hp) hs)
  subst hn
  intro p l e s m args below meth c H locs D cA A lsA X Z R S L
  have hts := X.2.2.2.2.2.1
  have hkx := X.2.2.2.2.2.2.2.2.1.2 hlaw
  obtain ⟨⟨w1, w2, w3, w4⟩, hlk⟩ := hC
  refine e_after (mc' := mc') (ms' := ms') (rest := st) (a := av.toArray) (Q' := fun r h' => ∃ L', Q' r L' ∧ stars L' h') hu hj X.2.2.2.2.2.2.2.2.2 R ?_ S (fun r h' H1 locs1 q1 q0 q2 q3 => ?_)
  · refine vx_runSW (Ts := gw) (hh := hh) (bytes := M'.2.1) (maxL := M'.2.2.1) (ret := M'.2.2.2) ⟨X.1, X.2.1, X.2.2.2.1, X.2.2.2.2.1, hts⟩ (hM h1 k1 l D cA H.size) ⟨⟨rfl, rfl, hR.1.1, hR.1.2, pay_in hts (e_goodW M' hh w1), List.mem_cons_self⟩, hts _ w1, hts _ w3, ⟨w4.1, w4.2.1⟩, fun sig h => ?_, hts _ hlk, hts _ w2⟩ (e_preX X.2.2.2.2.2.2.1 hu R hkx S X.2.2.2.2.2.2.2.2.2) rfl hlen L.1.1 hst (lv_room hcat) hd hR.2
    have h2 := w4.2.2
    rw [h] at h2
    exact (Option.some.inj h2).symm
  · obtain ⟨L', q5, q6⟩ := q1
    exact kk r L' _ q5 ((stars_app L' L2).mpr ⟨h', h2, rfl, q0, q6, k2⟩) p l e s m args below meth c H1 locs1 D cA A lsA X Z q2 q3 L
set_option maxRecDepth 20000 in
set_option maxHeartbeats 2000000 in
theorem w_L_tick_x {o a3 : Nat} {f : Nat → Int64} {g : GS} {z : HD} {x : Int32} (hx : inI x (nI 1) (nI 1000) = false) : CAW mL_tick [(0, 9, 12, 13)] [.ref o, .int x, .ref a3] [flo o g z, pt a3 (.inl (1, 1, .inr (.inl f)))] (fun r K => r = some (.int (nI 1)) ∧ K = [flo o g z, pt a3 (.inl (1, 1, .inr (.inl f)))]) 8 270 1 6 := by
  intro h hL
  refine CtW.of 1 (ls := [some (.ref o), some (.int x), some (.ref a3), none]) rfl rfl (Nat.le_of_ble_eq_true rfl) rfl ?_
  refine s_aload_n 1 dL_tick_0 rfl rfl ?_
  refine s_iconst 2 (v := nI 0) dL_tick_1 rfl (by decide) ?_
  refine s_aload_n 3 dL_tick_2 rfl rfl ?_
  refine s_iload_n 4 dL_tick_3 rfl rfl ?_
  obtain ⟨fs, hb⟩ := stars_isO _ 0 hL rfl flo_O
  obtain ⟨y1, y2, hu, hj, k1, k2⟩ := (stars_app [flo o g z] [pt a3 (.inl (1, 1, .inr (.inl f)))]).mp hL
  refine t_catch (x := ⟨0, 9, 12, 13⟩) (tl := []) (av := [.int x]) (st := [.int (nI 0), .ref a3]) hu hj dL_tick_4 cv_L_7 lk_L_7 hb (x_X11_tick hx y1 k1) rfl rfl (Nat.le_of_ble_eq_true rfl) ⟨by decide, by decide, by decide⟩ rfl rfl (by decide) ck_L_13 ca_IAE (fun q h1' hq hj' => ?_)
  have hL : stars [flo o g z, pt a3 (.inl (1, 1, .inr (.inl f)))] (e_un h1' y2) := (stars_app [flo o g z] [pt a3 (.inl (1, 1, .inr (.inl f)))]).mpr ⟨h1', y2, rfl, hj', hq, k2⟩
  refine ES.ofE ?_
  refine e_astore_n 13 (ls' := [some (.ref o), some (.int x), some (.ref a3), some (.ref q)]) dL_tick_12 rfl (by decide) rfl ?_
  refine e_iconst 14 (v := nI 1) dL_tick_13 rfl (by decide) ?_
  exact e_iret dL_tick_14 rfl (by omega) (by omega) ⟨_, ⟨rfl, rfl⟩, hL⟩
set_option maxRecDepth 20000 in
set_option maxHeartbeats 2000000 in
theorem w_L_data_x {o a3 : Nat} {f : Nat → Int64} {tp an fr : List Nat} {D : List DS} {wv : Nat → Nat} {hs : List (Nat × Nat)} {ck : Nat} {v : Nat → Nat} {RQ : List RQE} {RS : List RSE} {SC : List SCE} {er : List Nat} {B : Nat → Bool} {h1 h2 : Nat} {N1 N2 : List Bool} {x : Int32} (ho : RS.length = 0 ∨ dIn (hdS (tp, an, D, (fr, wv, hs), (v, RQ, RS, SC, er, B), ck)).1.length x = false) : CAW mL_data [(0, 9, 12, 18)] [.ref o, .int x, .ref a3] [flo o (tp, an, D, (fr, wv, hs), (v, RQ, RS, SC, er, B), ck) (h1, h2, N1, N2), pt a3 (.inl (1, 1, .inr (.inl f)))] (fun r K => r = some (.int (nI 1)) ∧ K = [flo o (tp, an, D, (fr, wv, hs), (v, RQ, RS, SC, er, B), ck) (h1, h2, N1, N2), pt a3 (.inl (1, 1, .inr (.inl f)))]) 8 270 1 6 := by
  intro h hL
  refine CtW.of 1 (ls := [some (.ref o), some (.int x), some (.ref a3), none]) rfl rfl (Nat.le_of_ble_eq_true rfl) rfl ?_
  refine s_aload_n 1 dL_data_0 rfl rfl ?_
  refine s_iconst 2 (v := nI 0) dL_data_1 rfl (by decide) ?_
  refine s_aload_n 3 dL_data_2 rfl rfl ?_
  refine s_iload_n 4 dL_data_3 rfl rfl ?_
  obtain ⟨fs, hb⟩ := stars_isO _ 0 hL rfl flo_O
  obtain ⟨y1, y2, hu, hj, k1, k2⟩ := (stars_app [flo o (tp, an, D, (fr, wv, hs), (v, RQ, RS, SC, er, B), ck) (h1, h2, N1, N2)] [pt a3 (.inl (1, 1, .inr (.inl f)))]).mp hL
  refine t_catch (x := ⟨0, 9, 12, 18⟩) (tl := []) (av := [.int x]) (st := [.int (nI 0), .ref a3]) hu hj dL_data_4 cv_L_15 lk_L_15 hb (x_X11_data ho y1 k1) rfl rfl (Nat.le_of_ble_eq_true rfl) ⟨by decide, by decide, by decide⟩ rfl rfl (by decide) ck_L_18 ca_IOB (fun q h1' hq hj' => ?_)
  have hL : stars [flo o (tp, an, D, (fr, wv, hs), (v, RQ, RS, SC, er, B), ck) (h1, h2, N1, N2), pt a3 (.inl (1, 1, .inr (.inl f)))] (e_un h1' y2) := (stars_app [flo o (tp, an, D, (fr, wv, hs), (v, RQ, RS, SC, er, B), ck) (h1, h2, N1, N2)] [pt a3 (.inl (1, 1, .inr (.inl f)))]).mpr ⟨h1', y2, rfl, hj', hq, k2⟩
  refine ES.ofE ?_
  refine e_astore_n 13 (ls' := [some (.ref o), some (.int x), some (.ref a3), some (.ref q)]) dL_data_12 rfl (by decide) rfl ?_
  refine e_iconst 14 (v := nI 1) dL_data_13 rfl (by decide) ?_
  exact e_iret dL_data_14 rfl (by omega) (by omega) ⟨_, ⟨rfl, rfl⟩, hL⟩
set_option maxRecDepth 20000 in
set_option maxHeartbeats 2000000 in
theorem w_L_tick {o a3 t nt : Nat} {f : Nat → Int64} {g : GS} {z : HD} (hv : okV (bnd t) g) (ht : t + nt < 800000) (na : 1 ≤ nt) (nb : nt ≤ 1000) : CAW mL_tick [(0, 9, 12, 13)] [.ref o, .int (nI nt), .ref a3] [flo o g z, pt a3 (.inl (1, 1, .inr (.inl f)))] (fun r K => r = some (.int (nI 0)) ∧ K = [flo o (tkN nt (g, z)).1 (tkN nt (g, z)).2, pt a3 (.inl (1, 1, .inr (.inl (vp_updL f 0 (nI ((tkN nt (g, z)).1.2.2.2.1.2.1 9) - nI (g.2.2.2.1.2.1 9)).toInt64))))]) 8 270 144 12528 := by
  intro h hL
  refine CtW.of 1 (ls := [some (.ref o), some (.int (nI nt)), some (.ref a3), none]) rfl rfl (Nat.le_of_ble_eq_true rfl) rfl (ES.ofE ?_)
  refine e_aload_n 1 dL_tick_0 rfl rfl ?_
  refine e_iconst 2 (v := nI 0) dL_tick_1 rfl (by decide) ?_
  refine e_aload_n 3 dL_tick_2 rfl rfl ?_
  refine e_iload_n 4 dL_tick_3 rfl rfl ?_
  refine p_callV 7 hL [0, 1] 2 rfl (by decide) (L1 := [flo o g z]) (L2 := [pt a3 (.inl (1, 1, .inr (.inl f)))]) rfl flo_O 0 rfl dL_tick_4 rfl cv_L_7 (k_X11_tick7 hv ht na nb) rfl rfl (Nat.le_of_ble_eq_true rfl) ⟨by decide, by omega, by omega⟩ (fun r1 L1 h q hL => ?_)
  obtain ⟨rfl, rfl⟩ := q
  have hL : stars [flo o (tkN nt (g, z)).1 (tkN nt (g, z)).2, pt a3 (.inl (1, 1, .inr (.inl f)))] h := hL
  refine e_i2l 8 (v := (nI ((tkN nt (g, z)).1.2.2.2.1.2.1 9) - nI (g.2.2.2.1.2.1 9)).toInt64) dL_tick_7 rfl rfl ?_
  refine e_last 9 dL_tick_8 rfl (stars_at _ 1 hL rfl) (vp_in_nI (by decide) (by decide)) ?_
  have hL : stars [flo o (tkN nt (g, z)).1 (tkN nt (g, z)).2, pt a3 (.inl (1, 1, .inr (.inl (vp_updL f 0 (nI ((tkN nt (g, z)).1.2.2.2.1.2.1 9) - nI (g.2.2.2.1.2.1 9)).toInt64))))] (e_up h a3 (.inl (1, 1, .inr (.inl (vp_updL f (nI 0).toNatClampNeg (nI ((tkN nt (g, z)).1.2.2.2.1.2.1 9) - nI (g.2.2.2.1.2.1 9)).toInt64))))) := stars_set _ 1 hL rfl
  refine e_goto 15 dL_tick_9 rfl ?_
  refine e_iconst 16 (v := nI 0) dL_tick_15 rfl (by decide) ?_
  exact e_iret dL_tick_16 rfl (by omega) (by omega) ⟨_, ⟨rfl, rfl⟩, hL⟩
set_option maxRecDepth 20000 in
set_option maxHeartbeats 2000000 in
theorem w_L_data {o a3 : Nat} {f : Nat → Int64} {tp an fr : List Nat} {D : List DS} {wv : Nat → Nat} {hs : List (Nat × Nat)} {ck : Nat} {v : Nat → Nat} {RQ : List RQE} {RS : List RSE} {SC : List SCE} {er : List Nat} {B : Nat → Bool} {h1 h2 : Nat} {N1 N2 : List Bool} {k : Nat} (h00 : 0 < RS.length) (hk : k < (hdS (tp, an, D, (fr, wv, hs), (v, RQ, RS, SC, er, B), ck)).1.length) : CAW mL_data [(0, 9, 12, 18)] [.ref o, .int (nI k), .ref a3] [flo o (tp, an, D, (fr, wv, hs), (v, RQ, RS, SC, er, B), ck) (h1, h2, N1, N2), pt a3 (.inl (1, 1, .inr (.inl f)))] (fun r K => r = some (.int (nI 0)) ∧ K = [flo o (tp, an, D, (fr, wv, hs), (v, RQ, RS, SC, er, B), ck) (h1, h2, N1, N2), pt a3 (.inl (1, 1, .inr (.inl (vp_updL f 0 (nI ((hdS (tp, an, D, (fr, wv, hs), (v, RQ, RS, SC, er, B), ck)).1.getD k 0)).toInt64))))]) 8 270 0 0 := by
  intro h hL
  refine CtW.of 1 (ls := [some (.ref o), some (.int (nI k)), some (.ref a3), none]) rfl rfl (Nat.le_of_ble_eq_true rfl) rfl (ES.ofE ?_)
  refine e_aload_n 1 dL_data_0 rfl rfl ?_
  refine e_iconst 2 (v := nI 0) dL_data_1 rfl (by decide) ?_
  refine e_aload_n 3 dL_data_2 rfl rfl ?_
  refine e_iload_n 4 dL_data_3 rfl rfl ?_
  refine p_callV 7 hL [0, 1] 2 rfl (by decide) (L1 := [flo o (tp, an, D, (fr, wv, hs), (v, RQ, RS, SC, er, B), ck) (h1, h2, N1, N2)]) (L2 := [pt a3 (.inl (1, 1, .inr (.inl f)))]) rfl flo_O 0 rfl dL_data_4 rfl cv_L_15 (k_X11_data h00 hk) rfl rfl (Nat.le_of_ble_eq_true rfl) ⟨by decide, by omega, by omega⟩ (fun r1 L1 h q hL => ?_)
  obtain ⟨rfl, rfl⟩ := q
  have hL : stars [flo o (tp, an, D, (fr, wv, hs), (v, RQ, RS, SC, er, B), ck) (h1, h2, N1, N2), pt a3 (.inl (1, 1, .inr (.inl f)))] h := hL
  refine e_i2l 8 (v := (nI ((hdS (tp, an, D, (fr, wv, hs), (v, RQ, RS, SC, er, B), ck)).1.getD k 0)).toInt64) dL_data_7 rfl rfl ?_
  refine e_last 9 dL_data_8 rfl (stars_at _ 1 hL rfl) (vp_in_nI (by decide) (by decide)) ?_
  have hL : stars [flo o (tp, an, D, (fr, wv, hs), (v, RQ, RS, SC, er, B), ck) (h1, h2, N1, N2), pt a3 (.inl (1, 1, .inr (.inl (vp_updL f 0 (nI ((hdS (tp, an, D, (fr, wv, hs), (v, RQ, RS, SC, er, B), ck)).1.getD k 0)).toInt64))))] (e_up h a3 (.inl (1, 1, .inr (.inl (vp_updL f (nI 0).toNatClampNeg (nI ((hdS (tp, an, D, (fr, wv, hs), (v, RQ, RS, SC, er, B), ck)).1.getD k 0)).toInt64))))) := stars_set _ 1 hL rfl
  refine e_goto 15 dL_data_9 rfl ?_
  refine e_iconst 16 (v := nI 0) dL_data_15 rfl (by decide) ?_
  exact e_iret dL_data_16 rfl (by omega) (by omega) ⟨_, ⟨rfl, rfl⟩, hL⟩
