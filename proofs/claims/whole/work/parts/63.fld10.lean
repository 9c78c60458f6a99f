/-! FieldLine: devices made -/
theorem dev_rd (L : List sA) (i : Nat) {X : List (Nat × DS)} {k : Nat} {e : Nat × DS} {h : eH} (hL : stars L h) (hi : L[i]? = some (lst dve X)) (hx : X[k]? = some e) : ∃ A : Nat → Nat, h e.1 = some (.inr (1, [.int (nI (e.2.1 0)), .int (nI (e.2.1 1)), .int (nI (e.2.1 2)), .ref (A 3), .ref (A 4), .ref (A 5), .ref (A 6), .ref (A 7), .int (nI (e.2.1 8)), .ref (A 9), .ref (A 10), .ref (A 11), .ref (A 12), .ref (A 13), .ref (A 14), .ref (A 15), .ref (A 16), .int (nI (e.2.1 17)), .int (nI (e.2.1 18)), .int (bI (e.2.2.2.2.2.2.2 0))])) := by
  obtain ⟨h1, ⟨A, p⟩, e9⟩ := lst_part L i hL hi hx
  exact ⟨A, e9 _ _ (stars_at _ 0 p rfl)⟩
def tkD (D : List DS) (a : Nat) : Bool := D.any (fun s => decide (s.1 1 = a))
theorem tkD_s {DL : List (Nat × DS)} {i : Nat} {e : Nat × DS} {a : Nat} (h : DL[i]? = some e) : tkD ((DL.take (i + 1)).map (·.2)) a = (tkD ((DL.take i).map (·.2)) a || decide (e.2.1 1 = a)) := by
  obtain ⟨hi, rfl⟩ := List.getElem?_eq_some_iff.mp h
  rw [tkD, List.take_succ_eq_append_getElem hi, List.map_append, List.any_append]
  simp [tkD]
theorem tkD_t {DL : List (Nat × DS)} {i : Nat} {e : Nat × DS} {a : Nat} (h : DL[i]? = some e) (hx : e.2.1 1 = a) : tkD (DL.map (·.2)) a = true := by
  rw [tkD, List.any_eq_true]
  exact ⟨e.2, List.mem_map_of_mem (List.mem_of_getElem? h), by simpa using hx⟩
theorem shf_0 {s cap rm : Nat} {L : List sA} {h : eH} (k : stars (shB s cap rm [] :: L) h) : stars (shf s cap rm [] :: L) h := by
  refine shf_c (K := []) (C := fun _ => []) rfl ?_
  exact star_mono k (fun _ y => y) (fun _ y => stars_me y)
set_option maxRecDepth 20000 in
set_option maxHeartbeats 2000000 in
theorem l_X11_isTaken {o ck a : Nat} {F : Nat → Nat} {DL : List (Nat × DS)} (hl6 : DL.length ≤ 6) (ha : a < 1000) (hok : ∀ e ∈ DL, okD e.2) : ∀ (n : Nat) (i : Nat) (h : eH), DL.length - i < n → i ≤ DL.length → tkD ((DL.take i).map (·.2)) a = false → stars [pt o (.inr (9, [.ref (F 0), .ref (F 1), .ref (F 2), .ref (F 3), .ref (F 4), .int (nI DL.length), .ref (F 6), .ref (F 7), .int (nI ck)])), pt (F 4) (.inl (2, 6, .inr (.inr (.inr (.inr (adD DL)))))), lst dve DL] h → EE mX11_isTaken 1 30 0 0 (fun r h' => ∃ K, (r = some (.int (bI (tkD (DL.map (·.2)) a))) ∧ K = [pt o (.inr (9, [.ref (F 0), .ref (F 1), .ref (F 2), .ref (F 3), .ref (F 4), .int (nI DL.length), .ref (F 6), .ref (F 7), .int (nI ck)])), pt (F 4) (.inl (2, 6, .inr (.inr (.inr (.inr (adD DL)))))), lst dve DL]) ∧ stars K h') 2 [some (.ref o), some (.int (nI a)), some (.int (nI i)), none] [] h 0 0 := by
  intro n
  induction n with
  | zero => intro i h hlt hle hi hL; exact absurd hlt (by omega)
  | succ n ih =>
    intro i h hlt hle hi hL
    refine e_iload_n 3 dX11_isTaken_2 rfl rfl ?_
    refine e_aload_n 4 dX11_isTaken_3 rfl rfl ?_
    refine e_get 7 dX11_isTaken_4 rfl fl_X11_33_9 (stars_at _ 0 hL rfl) rfl ?_
    refine e_icmp_ge 36 10 dX11_isTaken_7 rfl rfl (fun c7 => ?_) (fun c7 => ?_)
    · have k7 := j_ge_t (a := i) (b := DL.length) (by omega) (by omega) c7
      refine e_iconst 37 (v := (nI 0)) dX11_isTaken_36 rfl (by decide) ?_
      exact e_zret dX11_isTaken_37 rfl (Or.inl (by decide)) (by omega) (by omega) (⟨_, ⟨by rw [show tkD (DL.map (·.2)) a = false by rw [← hi, List.take_of_length_le (by omega)]]; rfl, rfl⟩, hL⟩)
    · have k7 := j_ge_f (a := i) (b := DL.length) (by omega) (by omega) c7
      obtain ⟨e, he⟩ : ∃ e, DL[i]? = some e := ⟨_, List.getElem?_eq_getElem (show i < DL.length by omega)⟩
      have hoe := hok e (List.mem_of_getElem? he)
      have hv1 : e.2.1 1 < 248 := by obtain ⟨_, _, _, _, _, _, _, _, _, _, _, _, _, h9, _⟩ := hoe; exact h9
      refine e_aload_n 11 dX11_isTaken_10 rfl rfl ?_
      refine e_iload_n 12 dX11_isTaken_11 rfl rfl ?_
      refine p_callV 15 hL [0, 1, 2] 3 rfl (by decide) (L1 := [pt o (.inr (9, [.ref (F 0), .ref (F 1), .ref (F 2), .ref (F 3), .ref (F 4), .int (nI DL.length), .ref (F 6), .ref (F 7), .int (nI ck)])), pt (F 4) (.inl (2, 6, .inr (.inr (.inr (.inr (adD DL))))))]) (L2 := [lst dve DL]) rfl isO_pt 0 rfl dX11_isTaken_12 rfl cv_X11_82 (k_deviceOf1 hl6 he) rfl rfl (Nat.le_of_ble_eq_true rfl) ⟨by decide, by omega, by omega⟩ (fun r1 L1 h q hL => ?_)
      obtain ⟨rfl, rfl⟩ := q
      have hL : stars [pt o (.inr (9, [.ref (F 0), .ref (F 1), .ref (F 2), .ref (F 3), .ref (F 4), .int (nI DL.length), .ref (F 6), .ref (F 7), .int (nI ck)])), pt (F 4) (.inl (2, 6, .inr (.inr (.inr (.inr (adD DL)))))), lst dve DL] h := hL
      refine e_astore_n 16 (ls' := [some (.ref o), some (.int (nI a)), some (.int (nI i)), some (.ref e.1)]) dX11_isTaken_15 rfl (by decide) rfl ?_
      refine e_aload_n 17 dX11_isTaken_16 rfl rfl ?_
      refine e_ifnull 20 dX11_isTaken_17 rfl ?_
      refine e_aload_n 21 dX11_isTaken_20 rfl rfl ?_
      obtain ⟨z21, y21⟩ := dev_rd _ 2 hL rfl he
      refine e_get 24 dX11_isTaken_21 rfl fl_X11_86_1 y21 rfl ?_
      refine e_iload_n 25 dX11_isTaken_24 rfl rfl ?_
      refine e_icmp_ne 30 28 dX11_isTaken_25 rfl rfl (fun c25 => ?_) (fun c25 => ?_)
      · have k25 := j_ne_t (a := (e.2.1 1)) (b := a) (by omega) (by omega) c25
        refine e_iinc 33 (v := (nI (i + 1))) (ls' := [some (.ref o), some (.int (nI a)), some (.int (nI (i + 1))), some (.ref e.1)]) dX11_isTaken_30 rfl rfl (nI_add i 1) (by decide) rfl ?_
        refine e_goto 2 dX11_isTaken_33 rfl ?_
        refine e_wk [some (.ref o), some (.int (nI a)), some (.int (nI (i + 1))), none] ⟨rfl, rfl, rfl, trivial⟩ ?_
        exact ih (i + 1) h (by omega) (by omega) (by rw [tkD_s he, hi, Bool.false_or, decide_eq_false_iff_not]; exact k25) (by exact hL)
      · have k25 := j_ne_f (a := (e.2.1 1)) (b := a) (by omega) (by omega) c25
        refine e_iconst 29 (v := (nI 1)) dX11_isTaken_28 rfl (by decide) ?_
        exact e_zret dX11_isTaken_29 rfl (Or.inr (by decide)) (by omega) (by omega) (⟨_, ⟨by rw [tkD_t he k25]; rfl, rfl⟩, hL⟩)
set_option maxRecDepth 20000 in
set_option maxHeartbeats 2000000 in
theorem k_X11_isTaken {o ck a : Nat} {F : Nat → Nat} {DL : List (Nat × DS)} (hl6 : DL.length ≤ 6) (ha : a < 1000) (hok : ∀ e ∈ DL, okD e.2) : CA mX11_isTaken [.ref o, .int (nI a)] [pt o (.inr (9, [.ref (F 0), .ref (F 1), .ref (F 2), .ref (F 3), .ref (F 4), .int (nI DL.length), .ref (F 6), .ref (F 7), .int (nI ck)])), pt (F 4) (.inl (2, 6, .inr (.inr (.inr (.inr (adD DL)))))), lst dve DL] (fun r K => r = some (.int (bI (tkD (DL.map (·.2)) a))) ∧ K = [pt o (.inr (9, [.ref (F 0), .ref (F 1), .ref (F 2), .ref (F 3), .ref (F 4), .int (nI DL.length), .ref (F 6), .ref (F 7), .int (nI ck)])), pt (F 4) (.inl (2, 6, .inr (.inr (.inr (.inr (adD DL)))))), lst dve DL]) 1 30 0 0 := by
  refine CA.mk 2 (ls := [some (.ref o), some (.int (nI a)), none, none]) rfl rfl (Nat.le_of_ble_eq_true rfl) rfl (fun h hL => ?_)
  refine e_iconst 1 (v := (nI 0)) dX11_isTaken_0 rfl (by decide) ?_
  refine e_istore_n 2 (ls' := [some (.ref o), some (.int (nI a)), some (.int (nI 0)), none]) dX11_isTaken_1 rfl (by decide) rfl ?_
  exact l_X11_isTaken hl6 ha hok _ 0 h (Nat.lt_succ_self _) (by omega) (by rw [List.take_zero]; rfl) hL
def dsN (n a l : Nat) : DS := (upN (fun i => [n, a, l].getD i 0) 20 14, fun _ => 0, fun _ => 0, fun _ => 0, fun _ => [], fun _ => [], fun _ => false)
def dvC (g : GS) (a l : Int32) : Bool := decide (g.2.2.1.length < 6) && (inI a (nI 1) (nI 247) && (inI l (nI 0) (nI 2000) && !tkD g.2.2.1 a.toNatClampNeg))
def dvG (g : GS) (a l : Int32) : GS := if dvC g a l then (g.1, g.2.1, g.2.2.1 ++ [dsN g.2.2.1.length a.toNatClampNeg l.toNatClampNeg], g.2.2.2) else g
def dvR (g : GS) (a l : Int32) : Int32 := if dvC g a l then nI g.2.2.1.length else -1
set_option maxRecDepth 20000 in
set_option maxHeartbeats 2000000 in
theorem k_X11_device {o : Nat} {tp an fr : List Nat} {D : List DS} {wv : Nat → Nat} {hs : List (Nat × Nat)} {M : MS} {ck : Nat} {z : HD} {x1 x2 : Int32} (hok : ∀ s ∈ D, okD s) : CA mX11_device [.ref o, .int x1, .int x2] [flo o (tp, an, D, (fr, wv, hs), M, ck) z] (fun r K => r = some (.int (dvR (tp, an, D, (fr, wv, hs), M, ck) x1 x2)) ∧ K = [flo o (dvG (tp, an, D, (fr, wv, hs), M, ck) x1 x2) z]) 4 90 29 2358 := by
  refine CA.mk 0 (ls := [some (.ref o), some (.int x1), some (.int x2)]) rfl rfl (Nat.le_of_ble_eq_true rfl) rfl (fun h hL => ?_)
  obtain ⟨F, DL, hr, cm, hD, hl6, hL⟩ := flo_o hL
  have hL : stars [pt o (.inr (9, [.ref (F 0), .ref (F 1), .ref (F 2), .ref (F 3), .ref (F 4), .int (nI DL.length), .ref (F 6), .ref (F 7), .int (nI ck)])), row (F 0) 400 tp, row (F 1) 253 an, row (F 2) 253 hr, row (F 3) 253 cm, pt (F 4) (.inl (2, 6, .inr (.inr (.inr (.inr (adD DL)))))), wire (F 6) fr wv hs, mst (F 7) M z, lst dve DL] h := hL
  have hDl : D.length = DL.length := gD_len hD
  have hD : List.map (fun y : Nat × DS => y.2) DL = D := hD
  refine e_aload_n 1 dX11_device_0 rfl rfl ?_
  refine e_get 4 dX11_device_1 rfl fl_X11_33_9 (stars_at _ 0 hL rfl) rfl ?_
  refine e_bipush 6 (v := (nI 6)) dX11_device_4 rfl (by decide) ?_
  refine e_icmp_ge 39 9 dX11_device_6 rfl rfl (fun c6 => ?_) (fun c6 => ?_)
  · have k6 := j_ge_t (a := DL.length) (b := 6) (by omega) (by omega) c6
    refine e_iconst 40 (v := (-1)) dX11_device_39 rfl (by decide) ?_
    exact e_iret dX11_device_40 rfl (by omega) (by omega) (⟨_, ⟨by rw [dvR, if_neg (show ¬ dvC (tp, an, D, (fr, wv, hs), M, ck) x1 x2 = true by rw [show dvC (tp, an, D, (fr, wv, hs), M, ck) x1 x2 = false by simp only [dvC]; rw [decide_eq_false (show ¬ D.length < 6 by omega)]; rfl]; decide)], by rw [dvG, if_neg (show ¬ dvC (tp, an, D, (fr, wv, hs), M, ck) x1 x2 = true by rw [show dvC (tp, an, D, (fr, wv, hs), M, ck) x1 x2 = false by simp only [dvC]; rw [decide_eq_false (show ¬ D.length < 6 by omega)]; rfl]; decide)]⟩, flo_c (g := (tp, an, D, (fr, wv, hs), M, ck)) (X := []) hD hl6 (stars_ixn hL 9 rfl [0, 1, 2, 3, 4, 5, 6, 7, 8] (by decide) rfl)⟩)
  · have k6 := j_ge_f (a := DL.length) (b := 6) (by omega) (by omega) c6
    refine e_iload_n 10 dX11_device_9 rfl rfl ?_
    refine e_iconst 11 (v := (nI 1)) dX11_device_10 rfl (by decide) ?_
    refine e_sipush 14 (v := (nI 247)) dX11_device_11 rfl (by decide) ?_
    refine p_callS 17 hL [0, 1, 2, 3, 4, 5, 6, 7, 8] 9 rfl (by decide) (L1 := []) (L2 := [pt o (.inr (9, [.ref (F 0), .ref (F 1), .ref (F 2), .ref (F 3), .ref (F 4), .int (nI DL.length), .ref (F 6), .ref (F 7), .int (nI ck)])), row (F 0) 400 tp, row (F 1) 253 an, row (F 2) 253 hr, row (F 3) 253 cm, pt (F 4) (.inl (2, 6, .inr (.inr (.inr (.inr (adD DL)))))), wire (F 6) fr wv hs, mst (F 7) M z, lst dve DL]) rfl dX11_device_14 rfl cs_X11_71 k_X11_withinI rfl rfl (Nat.le_of_ble_eq_true rfl) ⟨by decide, by omega, by omega⟩ (fun r1 L1 h q hL => ?_)
    obtain ⟨rfl, rfl⟩ := q
    have hL : stars [pt o (.inr (9, [.ref (F 0), .ref (F 1), .ref (F 2), .ref (F 3), .ref (F 4), .int (nI DL.length), .ref (F 6), .ref (F 7), .int (nI ck)])), row (F 0) 400 tp, row (F 1) 253 an, row (F 2) 253 hr, row (F 3) 253 cm, pt (F 4) (.inl (2, 6, .inr (.inr (.inr (.inr (adD DL)))))), wire (F 6) fr wv hs, mst (F 7) M z, lst dve DL] h := hL
    refine e_if_eq 39 20 dX11_device_17 rfl rfl (fun c17 => ?_) (fun c17 => ?_)
    · have k17 := jb_eq_t c17
      refine e_iconst 40 (v := (-1)) dX11_device_39 rfl (by decide) ?_
      exact e_iret dX11_device_40 rfl (by omega) (by omega) (⟨_, ⟨by rw [dvR, if_neg (show ¬ dvC (tp, an, D, (fr, wv, hs), M, ck) x1 x2 = true by rw [show dvC (tp, an, D, (fr, wv, hs), M, ck) x1 x2 = false by simp only [dvC, k17, Bool.false_and, Bool.and_false]]; decide)], by rw [dvG, if_neg (show ¬ dvC (tp, an, D, (fr, wv, hs), M, ck) x1 x2 = true by rw [show dvC (tp, an, D, (fr, wv, hs), M, ck) x1 x2 = false by simp only [dvC, k17, Bool.false_and, Bool.and_false]]; decide)]⟩, flo_c (g := (tp, an, D, (fr, wv, hs), M, ck)) (X := []) hD hl6 (stars_ixn hL 9 rfl [0, 1, 2, 3, 4, 5, 6, 7, 8] (by decide) rfl)⟩)
    · have k17 := jb_eq_f c17
      obtain ⟨a, rfl, aa, ab⟩ := inI_nat (by first | decide | omega) (by first | decide | omega) k17
      have ac : (nI a).toNatClampNeg = a := nI_clamp (by omega)
      refine e_iload_n 21 dX11_device_20 rfl rfl ?_
      refine e_iconst 22 (v := (nI 0)) dX11_device_21 rfl (by decide) ?_
      refine e_sipush 25 (v := (nI 2000)) dX11_device_22 rfl (by decide) ?_
      refine p_callS 28 hL [0, 1, 2, 3, 4, 5, 6, 7, 8] 9 rfl (by decide) (L1 := []) (L2 := [pt o (.inr (9, [.ref (F 0), .ref (F 1), .ref (F 2), .ref (F 3), .ref (F 4), .int (nI DL.length), .ref (F 6), .ref (F 7), .int (nI ck)])), row (F 0) 400 tp, row (F 1) 253 an, row (F 2) 253 hr, row (F 3) 253 cm, pt (F 4) (.inl (2, 6, .inr (.inr (.inr (.inr (adD DL)))))), wire (F 6) fr wv hs, mst (F 7) M z, lst dve DL]) rfl dX11_device_25 rfl cs_X11_71 k_X11_withinI rfl rfl (Nat.le_of_ble_eq_true rfl) ⟨by decide, by omega, by omega⟩ (fun r1 L1 h q hL => ?_)
      obtain ⟨rfl, rfl⟩ := q
      have hL : stars [pt o (.inr (9, [.ref (F 0), .ref (F 1), .ref (F 2), .ref (F 3), .ref (F 4), .int (nI DL.length), .ref (F 6), .ref (F 7), .int (nI ck)])), row (F 0) 400 tp, row (F 1) 253 an, row (F 2) 253 hr, row (F 3) 253 cm, pt (F 4) (.inl (2, 6, .inr (.inr (.inr (.inr (adD DL)))))), wire (F 6) fr wv hs, mst (F 7) M z, lst dve DL] h := hL
      refine e_if_eq 39 31 dX11_device_28 rfl rfl (fun c28 => ?_) (fun c28 => ?_)
      · have k28 := jb_eq_t c28
        refine e_iconst 40 (v := (-1)) dX11_device_39 rfl (by decide) ?_
        exact e_iret dX11_device_40 rfl (by omega) (by omega) (⟨_, ⟨by rw [dvR, if_neg (show ¬ dvC (tp, an, D, (fr, wv, hs), M, ck) (nI a) x2 = true by rw [show dvC (tp, an, D, (fr, wv, hs), M, ck) (nI a) x2 = false by simp only [dvC, k17, k28, Bool.false_and, Bool.and_false]]; decide)], by rw [dvG, if_neg (show ¬ dvC (tp, an, D, (fr, wv, hs), M, ck) (nI a) x2 = true by rw [show dvC (tp, an, D, (fr, wv, hs), M, ck) (nI a) x2 = false by simp only [dvC, k17, k28, Bool.false_and, Bool.and_false]]; decide)]⟩, flo_c (g := (tp, an, D, (fr, wv, hs), M, ck)) (X := []) hD hl6 (stars_ixn hL 9 rfl [0, 1, 2, 3, 4, 5, 6, 7, 8] (by decide) rfl)⟩)
      · have k28 := jb_eq_f c28
        obtain ⟨l, rfl, la, lb⟩ := inI_nat (by first | decide | omega) (by first | decide | omega) k28
        have lc : (nI l).toNatClampNeg = l := nI_clamp (by omega)
        refine e_aload_n 32 dX11_device_31 rfl rfl ?_
        refine e_iload_n 33 dX11_device_32 rfl rfl ?_
        refine p_callV 36 hL [0, 5, 8, 1, 2, 3, 4, 6, 7] 9 rfl (by decide) (L1 := [pt o (.inr (9, [.ref (F 0), .ref (F 1), .ref (F 2), .ref (F 3), .ref (F 4), .int (nI DL.length), .ref (F 6), .ref (F 7), .int (nI ck)])), pt (F 4) (.inl (2, 6, .inr (.inr (.inr (.inr (adD DL)))))), lst dve DL]) (L2 := [row (F 0) 400 tp, row (F 1) 253 an, row (F 2) 253 hr, row (F 3) 253 cm, wire (F 6) fr wv hs, mst (F 7) M z]) rfl isO_pt 0 rfl dX11_device_33 rfl cv_X11_75 (k_X11_isTaken hl6 (by omega) (fun e he => hok _ (by rw [← hD]; exact List.mem_map_of_mem he))) rfl rfl (Nat.le_of_ble_eq_true rfl) ⟨by decide, by omega, by omega⟩ (fun r1 L1 h q hL => ?_)
        obtain ⟨rfl, rfl⟩ := q
        have hL : stars [pt o (.inr (9, [.ref (F 0), .ref (F 1), .ref (F 2), .ref (F 3), .ref (F 4), .int (nI DL.length), .ref (F 6), .ref (F 7), .int (nI ck)])), pt (F 4) (.inl (2, 6, .inr (.inr (.inr (.inr (adD DL)))))), lst dve DL, row (F 0) 400 tp, row (F 1) 253 an, row (F 2) 253 hr, row (F 3) 253 cm, wire (F 6) fr wv hs, mst (F 7) M z] h := hL
        have hL : stars [pt o (.inr (9, [.ref (F 0), .ref (F 1), .ref (F 2), .ref (F 3), .ref (F 4), .int (nI DL.length), .ref (F 6), .ref (F 7), .int (nI ck)])), row (F 0) 400 tp, row (F 1) 253 an, row (F 2) 253 hr, row (F 3) 253 cm, pt (F 4) (.inl (2, 6, .inr (.inr (.inr (.inr (adD DL)))))), wire (F 6) fr wv hs, mst (F 7) M z, lst dve DL] h := stars_ixn hL 9 rfl [0, 3, 4, 5, 6, 1, 7, 8, 2] (by decide) rfl
        refine e_if_eq 41 39 dX11_device_36 rfl rfl (fun c36 => ?_) (fun c36 => ?_)
        · have k36 := jb_eq_t c36
          refine e_aload_n 42 dX11_device_41 rfl rfl ?_
          refine e_get 45 dX11_device_42 rfl fl_X11_29_9 (stars_at _ 0 hL rfl) rfl ?_
          refine e_aload_n 46 dX11_device_45 rfl rfl ?_
          refine e_get 49 dX11_device_46 rfl fl_X11_33_9 (stars_at _ 0 hL rfl) rfl ?_
          refine p_new 52 20 hL rfl dX11_device_49 rfl nc_X11_27 (by omega) (by omega) (fun q49 h hL => ?_)
          have hL : stars [pt q49 (.inr (1, [.int 0, .int 0, .int 0, .null, .null, .null, .null, .null, .int 0, .null, .null, .null, .null, .null, .null, .null, .null, .int 0, .int 0, .int 0])), pt o (.inr (9, [.ref (F 0), .ref (F 1), .ref (F 2), .ref (F 3), .ref (F 4), .int (nI DL.length), .ref (F 6), .ref (F 7), .int (nI ck)])), row (F 0) 400 tp, row (F 1) 253 an, row (F 2) 253 hr, row (F 3) 253 cm, pt (F 4) (.inl (2, 6, .inr (.inr (.inr (.inr (adD DL)))))), wire (F 6) fr wv hs, mst (F 7) M z, lst dve DL] h := hL
          refine e_dup 53 dX11_device_52 rfl rfl ?_
          refine e_aload_n 54 dX11_device_53 rfl rfl ?_
          refine e_get 57 dX11_device_54 rfl fl_X11_33_9 (stars_at _ 1 hL rfl) rfl ?_
          refine e_iload_n 58 dX11_device_57 rfl rfl ?_
          refine e_iload_n 59 dX11_device_58 rfl rfl ?_
          refine p_callI 62 hL [0, 1, 2, 3, 4, 5, 6, 7, 8, 9] 10 rfl (by decide) (L1 := [pt q49 (.inr (1, [.int 0, .int 0, .int 0, .null, .null, .null, .null, .null, .int 0, .null, .null, .null, .null, .null, .null, .null, .null, .int 0, .int 0, .int 0]))]) (L2 := [pt o (.inr (9, [.ref (F 0), .ref (F 1), .ref (F 2), .ref (F 3), .ref (F 4), .int (nI DL.length), .ref (F 6), .ref (F 7), .int (nI ck)])), row (F 0) 400 tp, row (F 1) 253 an, row (F 2) 253 hr, row (F 3) 253 cm, pt (F 4) (.inl (2, 6, .inr (.inr (.inr (.inr (adD DL)))))), wire (F 6) fr wv hs, mst (F 7) M z, lst dve DL]) rfl dX11_device_59 rfl ci_X11_79 k_X1_init rfl rfl (Nat.le_of_ble_eq_true rfl) ⟨by decide, by omega, by omega⟩ (fun r1 L1 h q hL => ?_)
          obtain ⟨A, rfl, rfl⟩ := q
          have hL : stars [dvO q49 A (fun i => [DL.length, a, l].getD i 0) false, bank (A 3) 1 0 [], bank (A 4) 1 0 [], bank (A 5) 65535 0 [], bank (A 6) 65535 0 [], pI (A 7) 32 (fun _ => 0), shB (A 9) 4 120 [], shB (A 10) 4 40 [], shB (A 11) 10 40 [], row (A 12) 48 [], pI (A 13) 9 (fun _ => 0), row (A 14) 64 [], stn (A 15) [] 14 false false, row (A 16) 253 [], pt o (.inr (9, [.ref (F 0), .ref (F 1), .ref (F 2), .ref (F 3), .ref (F 4), .int (nI DL.length), .ref (F 6), .ref (F 7), .int (nI ck)])), row (F 0) 400 tp, row (F 1) 253 an, row (F 2) 253 hr, row (F 3) 253 cm, pt (F 4) (.inl (2, 6, .inr (.inr (.inr (.inr (adD DL)))))), wire (F 6) fr wv hs, mst (F 7) M z, lst dve DL] h := hL
          have hL : stars [shB (A 9) 4 120 [], dvO q49 A (fun i => [DL.length, a, l].getD i 0) false, bank (A 3) 1 0 [], bank (A 4) 1 0 [], bank (A 5) 65535 0 [], bank (A 6) 65535 0 [], pI (A 7) 32 (fun _ => 0), shB (A 10) 4 40 [], shB (A 11) 10 40 [], row (A 12) 48 [], pI (A 13) 9 (fun _ => 0), row (A 14) 64 [], stn (A 15) [] 14 false false, row (A 16) 253 [], pt o (.inr (9, [.ref (F 0), .ref (F 1), .ref (F 2), .ref (F 3), .ref (F 4), .int (nI DL.length), .ref (F 6), .ref (F 7), .int (nI ck)])), row (F 0) 400 tp, row (F 1) 253 an, row (F 2) 253 hr, row (F 3) 253 cm, pt (F 4) (.inl (2, 6, .inr (.inr (.inr (.inr (adD DL)))))), wire (F 6) fr wv hs, mst (F 7) M z, lst dve DL] h := stars_ixn hL 23 rfl [6, 0, 1, 2, 3, 4, 5, 7, 8, 9, 10, 11, 12, 13, 14, 15, 16, 17, 18, 19, 20, 21, 22] (by decide) rfl
          have hL := shf_0 hL
          have hL : stars [shf (A 9) 4 120 [], dvO q49 A (fun i => [DL.length, a, l].getD i 0) false, bank (A 3) 1 0 [], bank (A 4) 1 0 [], bank (A 5) 65535 0 [], bank (A 6) 65535 0 [], pI (A 7) 32 (fun _ => 0), shB (A 10) 4 40 [], shB (A 11) 10 40 [], row (A 12) 48 [], pI (A 13) 9 (fun _ => 0), row (A 14) 64 [], stn (A 15) [] 14 false false, row (A 16) 253 [], pt o (.inr (9, [.ref (F 0), .ref (F 1), .ref (F 2), .ref (F 3), .ref (F 4), .int (nI DL.length), .ref (F 6), .ref (F 7), .int (nI ck)])), row (F 0) 400 tp, row (F 1) 253 an, row (F 2) 253 hr, row (F 3) 253 cm, pt (F 4) (.inl (2, 6, .inr (.inr (.inr (.inr (adD DL)))))), wire (F 6) fr wv hs, mst (F 7) M z, lst dve DL] h := hL
          have hL : stars [shB (A 10) 4 40 [], shf (A 9) 4 120 [], dvO q49 A (fun i => [DL.length, a, l].getD i 0) false, bank (A 3) 1 0 [], bank (A 4) 1 0 [], bank (A 5) 65535 0 [], bank (A 6) 65535 0 [], pI (A 7) 32 (fun _ => 0), shB (A 11) 10 40 [], row (A 12) 48 [], pI (A 13) 9 (fun _ => 0), row (A 14) 64 [], stn (A 15) [] 14 false false, row (A 16) 253 [], pt o (.inr (9, [.ref (F 0), .ref (F 1), .ref (F 2), .ref (F 3), .ref (F 4), .int (nI DL.length), .ref (F 6), .ref (F 7), .int (nI ck)])), row (F 0) 400 tp, row (F 1) 253 an, row (F 2) 253 hr, row (F 3) 253 cm, pt (F 4) (.inl (2, 6, .inr (.inr (.inr (.inr (adD DL)))))), wire (F 6) fr wv hs, mst (F 7) M z, lst dve DL] h := stars_ixn hL 23 rfl [7, 0, 1, 2, 3, 4, 5, 6, 8, 9, 10, 11, 12, 13, 14, 15, 16, 17, 18, 19, 20, 21, 22] (by decide) rfl
          have hL := shf_0 hL
          have hL : stars [shf (A 10) 4 40 [], shf (A 9) 4 120 [], dvO q49 A (fun i => [DL.length, a, l].getD i 0) false, bank (A 3) 1 0 [], bank (A 4) 1 0 [], bank (A 5) 65535 0 [], bank (A 6) 65535 0 [], pI (A 7) 32 (fun _ => 0), shB (A 11) 10 40 [], row (A 12) 48 [], pI (A 13) 9 (fun _ => 0), row (A 14) 64 [], stn (A 15) [] 14 false false, row (A 16) 253 [], pt o (.inr (9, [.ref (F 0), .ref (F 1), .ref (F 2), .ref (F 3), .ref (F 4), .int (nI DL.length), .ref (F 6), .ref (F 7), .int (nI ck)])), row (F 0) 400 tp, row (F 1) 253 an, row (F 2) 253 hr, row (F 3) 253 cm, pt (F 4) (.inl (2, 6, .inr (.inr (.inr (.inr (adD DL)))))), wire (F 6) fr wv hs, mst (F 7) M z, lst dve DL] h := hL
          have hL : stars [shB (A 11) 10 40 [], shf (A 10) 4 40 [], shf (A 9) 4 120 [], dvO q49 A (fun i => [DL.length, a, l].getD i 0) false, bank (A 3) 1 0 [], bank (A 4) 1 0 [], bank (A 5) 65535 0 [], bank (A 6) 65535 0 [], pI (A 7) 32 (fun _ => 0), row (A 12) 48 [], pI (A 13) 9 (fun _ => 0), row (A 14) 64 [], stn (A 15) [] 14 false false, row (A 16) 253 [], pt o (.inr (9, [.ref (F 0), .ref (F 1), .ref (F 2), .ref (F 3), .ref (F 4), .int (nI DL.length), .ref (F 6), .ref (F 7), .int (nI ck)])), row (F 0) 400 tp, row (F 1) 253 an, row (F 2) 253 hr, row (F 3) 253 cm, pt (F 4) (.inl (2, 6, .inr (.inr (.inr (.inr (adD DL)))))), wire (F 6) fr wv hs, mst (F 7) M z, lst dve DL] h := stars_ixn hL 23 rfl [8, 0, 1, 2, 3, 4, 5, 6, 7, 9, 10, 11, 12, 13, 14, 15, 16, 17, 18, 19, 20, 21, 22] (by decide) rfl
          have hL := shf_0 hL
          have hL : stars [shf (A 11) 10 40 [], shf (A 10) 4 40 [], shf (A 9) 4 120 [], dvO q49 A (fun i => [DL.length, a, l].getD i 0) false, bank (A 3) 1 0 [], bank (A 4) 1 0 [], bank (A 5) 65535 0 [], bank (A 6) 65535 0 [], pI (A 7) 32 (fun _ => 0), row (A 12) 48 [], pI (A 13) 9 (fun _ => 0), row (A 14) 64 [], stn (A 15) [] 14 false false, row (A 16) 253 [], pt o (.inr (9, [.ref (F 0), .ref (F 1), .ref (F 2), .ref (F 3), .ref (F 4), .int (nI DL.length), .ref (F 6), .ref (F 7), .int (nI ck)])), row (F 0) 400 tp, row (F 1) 253 an, row (F 2) 253 hr, row (F 3) 253 cm, pt (F 4) (.inl (2, 6, .inr (.inr (.inr (.inr (adD DL)))))), wire (F 6) fr wv hs, mst (F 7) M z, lst dve DL] h := hL
          have hL : stars [dvO q49 A (fun i => [DL.length, a, l].getD i 0) false, bank (A 3) 1 0 [], bank (A 4) 1 0 [], bank (A 5) 65535 0 [], bank (A 6) 65535 0 [], pI (A 7) 32 (fun _ => 0), shf (A 9) 4 120 [], shf (A 10) 4 40 [], shf (A 11) 10 40 [], row (A 12) 48 [], pI (A 13) 9 (fun _ => 0), row (A 14) 64 [], stn (A 15) [] 14 false false, row (A 16) 253 [], pt o (.inr (9, [.ref (F 0), .ref (F 1), .ref (F 2), .ref (F 3), .ref (F 4), .int (nI DL.length), .ref (F 6), .ref (F 7), .int (nI ck)])), row (F 0) 400 tp, row (F 1) 253 an, row (F 2) 253 hr, row (F 3) 253 cm, pt (F 4) (.inl (2, 6, .inr (.inr (.inr (.inr (adD DL)))))), wire (F 6) fr wv hs, mst (F 7) M z, lst dve DL] h := stars_ixn hL 23 rfl [3, 4, 5, 6, 7, 8, 2, 1, 0, 9, 10, 11, 12, 13, 14, 15, 16, 17, 18, 19, 20, 21, 22] (by decide) rfl
          have hL := dev_c (d := q49) (A := A) (v := upN (fun i => [DL.length, a, l].getD i 0) 20 14) (bf := fun _ => 0) (lm := fun _ => 0) (ct := fun _ => 0) (L := fun _ => []) (S := fun _ => []) (B := fun _ => false) hL
          have hL : stars [dev q49 (dsN DL.length a l), pt o (.inr (9, [.ref (F 0), .ref (F 1), .ref (F 2), .ref (F 3), .ref (F 4), .int (nI DL.length), .ref (F 6), .ref (F 7), .int (nI ck)])), row (F 0) 400 tp, row (F 1) 253 an, row (F 2) 253 hr, row (F 3) 253 cm, pt (F 4) (.inl (2, 6, .inr (.inr (.inr (.inr (adD DL)))))), wire (F 6) fr wv hs, mst (F 7) M z, lst dve DL] h := hL
          refine p_aastO 63 hL 6 0 (k := DL.length) (L' := [dev q49 (dsN DL.length a l), pt o (.inr (9, [.ref (F 0), .ref (F 1), .ref (F 2), .ref (F 3), .ref (F 4), .int (nI DL.length), .ref (F 6), .ref (F 7), .int (nI ck)])), row (F 0) 400 tp, row (F 1) 253 an, row (F 2) 253 hr, row (F 3) 253 cm, pt (F 4) (.inl (2, 6, .inr (.inr (.inr (.inr (va_up (adD DL) DL.length (some q49))))))), wire (F 6) fr wv hs, mst (F 7) M z, lst dve DL]) rfl rfl dev_O rfl dX11_device_62 rfl rfl rfl (vp_in_nI (by omega) (by omega)) (nI_clamp (by omega)) (fun h hL => ?_)
          refine e_aload_n 64 dX11_device_63 rfl rfl ?_
          refine e_dup 65 dX11_device_64 rfl rfl ?_
          refine e_get 68 dX11_device_65 rfl fl_X11_33_9 (stars_at _ 1 hL rfl) rfl ?_
          refine e_iconst 69 (v := (nI 1)) dX11_device_68 rfl (by decide) ?_
          refine e_iadd 70 (v := (nI (DL.length + 1))) dX11_device_69 rfl (nI_add DL.length 1) ?_
          refine p_put 73 hL 1 (fs' := [.ref (F 0), .ref (F 1), .ref (F 2), .ref (F 3), .ref (F 4), .int (nI (DL.length + 1)), .ref (F 6), .ref (F 7), .int (nI ck)]) (L' := [dev q49 (dsN DL.length a l), pt o (.inr (9, [.ref (F 0), .ref (F 1), .ref (F 2), .ref (F 3), .ref (F 4), .int (nI (DL.length + 1)), .ref (F 6), .ref (F 7), .int (nI ck)])), row (F 0) 400 tp, row (F 1) 253 an, row (F 2) 253 hr, row (F 3) 253 cm, pt (F 4) (.inl (2, 6, .inr (.inr (.inr (.inr (va_up (adD DL) DL.length (some q49))))))), wire (F 6) fr wv hs, mst (F 7) M z, lst dve DL]) rfl rfl dX11_device_70 rfl fp_X11_33_9 (Or.inl rfl) (Nat.le_of_ble_eq_true rfl) rfl rfl rfl (fun h hL => ?_)
          refine e_aload_n 74 dX11_device_73 rfl rfl ?_
          refine e_get 77 dX11_device_74 rfl fl_X11_33_9 (stars_at _ 1 hL rfl) rfl ?_
          refine e_iconst 78 (v := (nI 1)) dX11_device_77 rfl (by decide) ?_
          refine e_isub 79 (v := (nI DL.length)) dX11_device_78 rfl (pk_sub (by omega)) ?_
          exact e_iret dX11_device_79 rfl (by omega) (by omega) (⟨_, ⟨by rw [dvR, if_pos (show dvC (tp, an, D, (fr, wv, hs), M, ck) (nI a) (nI l) = true by simp only [dvC, k17, k28, ac, Bool.true_and]; rw [decide_eq_true (show D.length < 6 by omega), show tkD D a = false by rw [← hD]; exact k36]; rfl)]; simp only []; rw [hDl], by rw [dvG, if_pos (show dvC (tp, an, D, (fr, wv, hs), M, ck) (nI a) (nI l) = true by simp only [dvC, k17, k28, ac, Bool.true_and]; rw [decide_eq_true (show D.length < 6 by omega), show tkD D a = false by rw [← hD]; exact k36]; rfl), ac, lc]⟩, by have k9 := lst_a (f := dve) (x := (q49, dsN DL.length a l)) (stars_ixn hL 10 rfl [0, 9, 1, 2, 3, 4, 5, 6, 7, 8] (by decide) rfl); rw [adD_app (x := dsN DL.length a l), show DL.length + 1 = (DL ++ [(q49, dsN DL.length a l)]).length by rw [List.length_append]; rfl] at k9; exact flo_c (g := (tp, an, D ++ [dsN D.length a l], (fr, wv, hs), M, ck)) (X := []) (DL := DL ++ [(q49, dsN DL.length a l)]) (by rw [List.map_append, hD, hDl]; rfl) (by rw [List.length_append, List.length_singleton]; omega) (stars_ixn k9 9 rfl [1, 2, 3, 4, 5, 6, 7, 8, 0] (by decide) rfl)⟩)
        · have k36 := jb_eq_f c36
          refine e_iconst 40 (v := (-1)) dX11_device_39 rfl (by decide) ?_
          exact e_iret dX11_device_40 rfl (by omega) (by omega) (⟨_, ⟨by rw [dvR, if_neg (show ¬ dvC (tp, an, D, (fr, wv, hs), M, ck) (nI a) (nI l) = true by rw [show dvC (tp, an, D, (fr, wv, hs), M, ck) (nI a) (nI l) = false by simp only [dvC, k17, k28, ac]; rw [show tkD D a = true by rw [← hD]; exact k36]; simp]; decide)], by rw [dvG, if_neg (show ¬ dvC (tp, an, D, (fr, wv, hs), M, ck) (nI a) (nI l) = true by rw [show dvC (tp, an, D, (fr, wv, hs), M, ck) (nI a) (nI l) = false by simp only [dvC, k17, k28, ac]; rw [show tkD D a = true by rw [← hD]; exact k36]; simp]; decide)]⟩, flo_c (g := (tp, an, D, (fr, wv, hs), M, ck)) (X := []) hD hl6 (stars_ixn hL 9 rfl [0, 1, 2, 3, 4, 5, 6, 7, 8] (by decide) rfl)⟩)
def gs0 : GS := ([], [], [], ([], upN (fun _ => 0) 2 14, []), ms0, 0)
set_option maxRecDepth 20000 in
set_option maxHeartbeats 2000000 in
theorem k_X11_init {o : Nat} : CA mX11_init [.ref o] [pt o (.inr (9, [.null, .null, .null, .null, .null, .int 0, .null, .null, .int 0]))] (fun r K => r = none ∧ K = [flo o gs0 hd0]) 4 90 21 1951 := by
  refine CA.mk 0 (ls := [some (.ref o)]) rfl rfl (Nat.le_of_ble_eq_true rfl) rfl (fun h hL => ?_)
  refine e_aload_n 1 dX11_init_0 rfl rfl ?_
  refine e_objInit 4 dX11_init_1 rfl oi_X11_1 (by decide) (Nat.le_of_ble_eq_true rfl) ?_
  refine e_aload_n 5 dX11_init_4 rfl rfl ?_
  refine p_new 8 2 hL rfl dX11_init_5 rfl nc_X11_7 (by omega) (by omega) (fun q5 h hL => ?_)
  have hL : stars [pt q5 (.inr (4, [.null, .int 0])), pt o (.inr (9, [.null, .null, .null, .null, .null, .int 0, .null, .null, .int 0]))] h := hL
  refine e_dup 9 dX11_init_8 rfl rfl ?_
  refine e_sipush 12 (v := (nI 400)) dX11_init_9 rfl (by decide) ?_
  refine p_callI 15 hL [0, 1] 2 rfl (by decide) (L1 := [pt q5 (.inr (4, [.null, .int 0]))]) (L2 := [pt o (.inr (9, [.null, .null, .null, .null, .null, .int 0, .null, .null, .int 0]))]) rfl dX11_init_12 rfl ci_X11_11 (k_X4_init (by decide)) rfl rfl (Nat.le_of_ble_eq_true rfl) ⟨by decide, by omega, by omega⟩ (fun r1 L1 h q hL => ?_)
  obtain ⟨rfl, rfl⟩ := q
  have hL : stars [row q5 400 ([]), pt o (.inr (9, [.null, .null, .null, .null, .null, .int 0, .null, .null, .int 0]))] h := hL
  refine p_put 18 hL 1 (fs' := [.ref q5, .null, .null, .null, .null, .int 0, .null, .null, .int 0]) (L' := [row q5 400 ([]), pt o (.inr (9, [.ref q5, .null, .null, .null, .null, .int 0, .null, .null, .int 0]))]) rfl rfl dX11_init_15 rfl fp_X11_14_9 (Or.inr rfl) (Nat.le_of_ble_eq_true rfl) rfl rfl rfl (fun h hL => ?_)
  refine e_aload_n 19 dX11_init_18 rfl rfl ?_
  refine p_new 22 2 hL rfl dX11_init_19 rfl nc_X11_7 (by omega) (by omega) (fun q19 h hL => ?_)
  have hL : stars [pt q19 (.inr (4, [.null, .int 0])), row q5 400 ([]), pt o (.inr (9, [.ref q5, .null, .null, .null, .null, .int 0, .null, .null, .int 0]))] h := hL
  refine e_dup 23 dX11_init_22 rfl rfl ?_
  refine e_sipush 26 (v := (nI 253)) dX11_init_23 rfl (by decide) ?_
  refine p_callI 29 hL [0, 1, 2] 3 rfl (by decide) (L1 := [pt q19 (.inr (4, [.null, .int 0]))]) (L2 := [row q5 400 ([]), pt o (.inr (9, [.ref q5, .null, .null, .null, .null, .int 0, .null, .null, .int 0]))]) rfl dX11_init_26 rfl ci_X11_11 (k_X4_init (by decide)) rfl rfl (Nat.le_of_ble_eq_true rfl) ⟨by decide, by omega, by omega⟩ (fun r1 L1 h q hL => ?_)
  obtain ⟨rfl, rfl⟩ := q
  have hL : stars [row q19 253 ([]), row q5 400 ([]), pt o (.inr (9, [.ref q5, .null, .null, .null, .null, .int 0, .null, .null, .int 0]))] h := hL
  refine p_put 32 hL 2 (fs' := [.ref q5, .ref q19, .null, .null, .null, .int 0, .null, .null, .int 0]) (L' := [row q19 253 ([]), row q5 400 ([]), pt o (.inr (9, [.ref q5, .ref q19, .null, .null, .null, .int 0, .null, .null, .int 0]))]) rfl rfl dX11_init_29 rfl fp_X11_18_9 (Or.inr rfl) (Nat.le_of_ble_eq_true rfl) rfl rfl rfl (fun h hL => ?_)
  refine e_aload_n 33 dX11_init_32 rfl rfl ?_
  refine p_new 36 2 hL rfl dX11_init_33 rfl nc_X11_7 (by omega) (by omega) (fun q33 h hL => ?_)
  have hL : stars [pt q33 (.inr (4, [.null, .int 0])), row q19 253 ([]), row q5 400 ([]), pt o (.inr (9, [.ref q5, .ref q19, .null, .null, .null, .int 0, .null, .null, .int 0]))] h := hL
  refine e_dup 37 dX11_init_36 rfl rfl ?_
  refine e_sipush 40 (v := (nI 253)) dX11_init_37 rfl (by decide) ?_
  refine p_callI 43 hL [0, 1, 2, 3] 4 rfl (by decide) (L1 := [pt q33 (.inr (4, [.null, .int 0]))]) (L2 := [row q19 253 ([]), row q5 400 ([]), pt o (.inr (9, [.ref q5, .ref q19, .null, .null, .null, .int 0, .null, .null, .int 0]))]) rfl dX11_init_40 rfl ci_X11_11 (k_X4_init (by decide)) rfl rfl (Nat.le_of_ble_eq_true rfl) ⟨by decide, by omega, by omega⟩ (fun r1 L1 h q hL => ?_)
  obtain ⟨rfl, rfl⟩ := q
  have hL : stars [row q33 253 ([]), row q19 253 ([]), row q5 400 ([]), pt o (.inr (9, [.ref q5, .ref q19, .null, .null, .null, .int 0, .null, .null, .int 0]))] h := hL
  refine p_put 46 hL 3 (fs' := [.ref q5, .ref q19, .ref q33, .null, .null, .int 0, .null, .null, .int 0]) (L' := [row q33 253 ([]), row q19 253 ([]), row q5 400 ([]), pt o (.inr (9, [.ref q5, .ref q19, .ref q33, .null, .null, .int 0, .null, .null, .int 0]))]) rfl rfl dX11_init_43 rfl fp_X11_21_9 (Or.inr rfl) (Nat.le_of_ble_eq_true rfl) rfl rfl rfl (fun h hL => ?_)
  refine e_aload_n 47 dX11_init_46 rfl rfl ?_
  refine p_new 50 2 hL rfl dX11_init_47 rfl nc_X11_7 (by omega) (by omega) (fun q47 h hL => ?_)
  have hL : stars [pt q47 (.inr (4, [.null, .int 0])), row q33 253 ([]), row q19 253 ([]), row q5 400 ([]), pt o (.inr (9, [.ref q5, .ref q19, .ref q33, .null, .null, .int 0, .null, .null, .int 0]))] h := hL
  refine e_dup 51 dX11_init_50 rfl rfl ?_
  refine e_sipush 54 (v := (nI 253)) dX11_init_51 rfl (by decide) ?_
  refine p_callI 57 hL [0, 1, 2, 3, 4] 5 rfl (by decide) (L1 := [pt q47 (.inr (4, [.null, .int 0]))]) (L2 := [row q33 253 ([]), row q19 253 ([]), row q5 400 ([]), pt o (.inr (9, [.ref q5, .ref q19, .ref q33, .null, .null, .int 0, .null, .null, .int 0]))]) rfl dX11_init_54 rfl ci_X11_11 (k_X4_init (by decide)) rfl rfl (Nat.le_of_ble_eq_true rfl) ⟨by decide, by omega, by omega⟩ (fun r1 L1 h q hL => ?_)
  obtain ⟨rfl, rfl⟩ := q
  have hL : stars [row q47 253 ([]), row q33 253 ([]), row q19 253 ([]), row q5 400 ([]), pt o (.inr (9, [.ref q5, .ref q19, .ref q33, .null, .null, .int 0, .null, .null, .int 0]))] h := hL
  refine p_put 60 hL 4 (fs' := [.ref q5, .ref q19, .ref q33, .ref q47, .null, .int 0, .null, .null, .int 0]) (L' := [row q47 253 ([]), row q33 253 ([]), row q19 253 ([]), row q5 400 ([]), pt o (.inr (9, [.ref q5, .ref q19, .ref q33, .ref q47, .null, .int 0, .null, .null, .int 0]))]) rfl rfl dX11_init_57 rfl fp_X11_24_9 (Or.inr rfl) (Nat.le_of_ble_eq_true rfl) rfl rfl rfl (fun h hL => ?_)
  refine e_aload_n 61 dX11_init_60 rfl rfl ?_
  refine e_bipush 63 (v := (nI 6)) dX11_init_61 rfl (by decide) ?_
  refine p_anew 66 hL (t := 2) (N := 6) dX11_init_63 rfl cl_X11_27 ao_FieldLine_Device rfl (nI_pos (by omega)) (nI_clamp (by omega)) (by omega) (by omega) (by omega) (fun q63 h hL => ?_)
  refine p_put 69 hL 5 (fs' := [.ref q5, .ref q19, .ref q33, .ref q47, .ref q63, .int 0, .null, .null, .int 0]) (L' := [pt q63 (.inl (2, 6, .inr (.inr (.inr (.inr (fun _ => none)))))), row q47 253 ([]), row q33 253 ([]), row q19 253 ([]), row q5 400 ([]), pt o (.inr (9, [.ref q5, .ref q19, .ref q33, .ref q47, .ref q63, .int 0, .null, .null, .int 0]))]) rfl rfl dX11_init_66 rfl fp_X11_29_9 (Or.inr rfl) (Nat.le_of_ble_eq_true rfl) rfl rfl rfl (fun h hL => ?_)
  refine e_aload_n 70 dX11_init_69 rfl rfl ?_
  refine e_iconst 71 (v := (nI 0)) dX11_init_70 rfl (by decide) ?_
  refine p_put 74 hL 5 (fs' := [.ref q5, .ref q19, .ref q33, .ref q47, .ref q63, .int (nI 0), .null, .null, .int 0]) (L' := [pt q63 (.inl (2, 6, .inr (.inr (.inr (.inr (fun _ => none)))))), row q47 253 ([]), row q33 253 ([]), row q19 253 ([]), row q5 400 ([]), pt o (.inr (9, [.ref q5, .ref q19, .ref q33, .ref q47, .ref q63, .int (nI 0), .null, .null, .int 0]))]) rfl rfl dX11_init_71 rfl fp_X11_33_9 (Or.inl rfl) (Nat.le_of_ble_eq_true rfl) rfl rfl rfl (fun h hL => ?_)
  refine e_aload_n 75 dX11_init_74 rfl rfl ?_
  refine p_new 78 14 hL rfl dX11_init_75 rfl nc_X11_37 (by omega) (by omega) (fun q75 h hL => ?_)
  have hL : stars [pt q75 (.inr (8, [.null, .int 0, .int 0, .int 0, .int 0, .int 0, .int 0, .int 0, .int 0, .int 0, .int 0, .null, .null, .int 0])), pt q63 (.inl (2, 6, .inr (.inr (.inr (.inr (fun _ => none)))))), row q47 253 ([]), row q33 253 ([]), row q19 253 ([]), row q5 400 ([]), pt o (.inr (9, [.ref q5, .ref q19, .ref q33, .ref q47, .ref q63, .int (nI 0), .null, .null, .int 0]))] h := hL
  refine e_dup 79 dX11_init_78 rfl rfl ?_
  refine p_callI 82 hL [0, 1, 2, 3, 4, 5, 6] 7 rfl (by decide) (L1 := [pt q75 (.inr (8, [.null, .int 0, .int 0, .int 0, .int 0, .int 0, .int 0, .int 0, .int 0, .int 0, .int 0, .null, .null, .int 0]))]) (L2 := [pt q63 (.inl (2, 6, .inr (.inr (.inr (.inr (fun _ => none)))))), row q47 253 ([]), row q33 253 ([]), row q19 253 ([]), row q5 400 ([]), pt o (.inr (9, [.ref q5, .ref q19, .ref q33, .ref q47, .ref q63, .int (nI 0), .null, .null, .int 0]))]) rfl dX11_init_79 rfl ci_X11_39 k_X10_init rfl rfl (Nat.le_of_ble_eq_true rfl) ⟨by decide, by omega, by omega⟩ (fun r1 L1 h q hL => ?_)
  obtain ⟨rfl, rfl⟩ := q
  have hL : stars [wire q75 [] (upN (fun _ => 0) 2 14) [], pt q63 (.inl (2, 6, .inr (.inr (.inr (.inr (fun _ => none)))))), row q47 253 ([]), row q33 253 ([]), row q19 253 ([]), row q5 400 ([]), pt o (.inr (9, [.ref q5, .ref q19, .ref q33, .ref q47, .ref q63, .int (nI 0), .null, .null, .int 0]))] h := hL
  refine p_put 85 hL 6 (fs' := [.ref q5, .ref q19, .ref q33, .ref q47, .ref q63, .int (nI 0), .ref q75, .null, .int 0]) (L' := [wire q75 [] (upN (fun _ => 0) 2 14) [], pt q63 (.inl (2, 6, .inr (.inr (.inr (.inr (fun _ => none)))))), row q47 253 ([]), row q33 253 ([]), row q19 253 ([]), row q5 400 ([]), pt o (.inr (9, [.ref q5, .ref q19, .ref q33, .ref q47, .ref q63, .int (nI 0), .ref q75, .null, .int 0]))]) rfl rfl dX11_init_82 rfl fp_X11_40_9 (Or.inr rfl) (Nat.le_of_ble_eq_true rfl) rfl rfl rfl (fun h hL => ?_)
  refine e_aload_n 86 dX11_init_85 rfl rfl ?_
  refine p_new 89 17 hL rfl dX11_init_86 rfl nc_X11_44 (by omega) (by omega) (fun q86 h hL => ?_)
  have hL : stars [pt q86 (.inr (3, [.null, .int 0, .int 0, .int 0, .int 0, .int 0, .null, .int 0, .int 0, .int 0, .null, .int 0, .int 0, .int 0, .int 0, .null, .int 0])), wire q75 [] (upN (fun _ => 0) 2 14) [], pt q63 (.inl (2, 6, .inr (.inr (.inr (.inr (fun _ => none)))))), row q47 253 ([]), row q33 253 ([]), row q19 253 ([]), row q5 400 ([]), pt o (.inr (9, [.ref q5, .ref q19, .ref q33, .ref q47, .ref q63, .int (nI 0), .ref q75, .null, .int 0]))] h := hL
  refine e_dup 90 dX11_init_89 rfl rfl ?_
  refine p_callI 93 hL [0, 1, 2, 3, 4, 5, 6, 7] 8 rfl (by decide) (L1 := [pt q86 (.inr (3, [.null, .int 0, .int 0, .int 0, .int 0, .int 0, .null, .int 0, .int 0, .int 0, .null, .int 0, .int 0, .int 0, .int 0, .null, .int 0]))]) (L2 := [wire q75 [] (upN (fun _ => 0) 2 14) [], pt q63 (.inl (2, 6, .inr (.inr (.inr (.inr (fun _ => none)))))), row q47 253 ([]), row q33 253 ([]), row q19 253 ([]), row q5 400 ([]), pt o (.inr (9, [.ref q5, .ref q19, .ref q33, .ref q47, .ref q63, .int (nI 0), .ref q75, .null, .int 0]))]) rfl dX11_init_90 rfl ci_X11_46 k_X3_init rfl rfl (Nat.le_of_ble_eq_true rfl) ⟨by decide, by omega, by omega⟩ (fun r1 L1 h q hL => ?_)
  obtain ⟨rfl, rfl⟩ := q
  have hL : stars [mst q86 ms0 hd0, wire q75 [] (upN (fun _ => 0) 2 14) [], pt q63 (.inl (2, 6, .inr (.inr (.inr (.inr (fun _ => none)))))), row q47 253 ([]), row q33 253 ([]), row q19 253 ([]), row q5 400 ([]), pt o (.inr (9, [.ref q5, .ref q19, .ref q33, .ref q47, .ref q63, .int (nI 0), .ref q75, .null, .int 0]))] h := hL
  refine p_put 96 hL 7 (fs' := [.ref q5, .ref q19, .ref q33, .ref q47, .ref q63, .int (nI 0), .ref q75, .ref q86, .int 0]) (L' := [mst q86 ms0 hd0, wire q75 [] (upN (fun _ => 0) 2 14) [], pt q63 (.inl (2, 6, .inr (.inr (.inr (.inr (fun _ => none)))))), row q47 253 ([]), row q33 253 ([]), row q19 253 ([]), row q5 400 ([]), pt o (.inr (9, [.ref q5, .ref q19, .ref q33, .ref q47, .ref q63, .int (nI 0), .ref q75, .ref q86, .int 0]))]) rfl rfl dX11_init_93 rfl fp_X11_47_9 (Or.inr rfl) (Nat.le_of_ble_eq_true rfl) rfl rfl rfl (fun h hL => ?_)
  refine e_aload_n 97 dX11_init_96 rfl rfl ?_
  refine e_iconst 98 (v := (nI 0)) dX11_init_97 rfl (by decide) ?_
  refine p_put 101 hL 7 (fs' := [.ref q5, .ref q19, .ref q33, .ref q47, .ref q63, .int (nI 0), .ref q75, .ref q86, .int (nI 0)]) (L' := [mst q86 ms0 hd0, wire q75 [] (upN (fun _ => 0) 2 14) [], pt q63 (.inl (2, 6, .inr (.inr (.inr (.inr (fun _ => none)))))), row q47 253 ([]), row q33 253 ([]), row q19 253 ([]), row q5 400 ([]), pt o (.inr (9, [.ref q5, .ref q19, .ref q33, .ref q47, .ref q63, .int (nI 0), .ref q75, .ref q86, .int (nI 0)]))]) rfl rfl dX11_init_98 rfl fp_X11_51_9 (Or.inl rfl) (Nat.le_of_ble_eq_true rfl) rfl rfl rfl (fun h hL => ?_)
  exact e_vret dX11_init_101 rfl (by omega) (by omega) (⟨_, ⟨rfl, rfl⟩, flo_c (g := gs0) (z := hd0) (F := (fun i => if i = 0 then q5 else if i = 1 then q19 else if i = 2 then q33 else if i = 3 then q47 else if i = 4 then q63 else if i = 6 then q75 else q86)) (DL := []) (hr := []) (cm := []) (X := []) rfl (Nat.zero_le _) (stars_ixn (lst_nil (f := dve) (stars_ixn hL 8 rfl [7, 6, 5, 4, 3, 2, 1, 0] (by decide) rfl)) 9 rfl [1, 2, 3, 4, 5, 6, 7, 8, 0] (by decide) rfl)⟩)
