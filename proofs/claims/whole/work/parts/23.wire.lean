/-! Wire: v i is the number in field i (1 sender, 2 idle, 3 next, 4 late, 5 left, 6 harm, 7 heard, 8 begun, 9 done, 10 frames); fr the frame; hs the harms: byte, harm -/
def upN (v : Nat → Nat) (i x : Nat) : Nat → Nat := fun j => if j = i then x else v j
def wire (w : Nat) (fr : List Nat) (v : Nat → Nat) (hs : List (Nat × Nat)) : sA := fun h => ∃ (a c1 c2 : Nat) (f1 f2 : Nat → Int32), hs.length ≤ 64 ∧ (∀ i, i < hs.length → f1 i = nI (hs.getD i (0, 0)).1 ∧ f2 i = nI (hs.getD i (0, 0)).2) ∧ stars [pt w (.inr (8, [.ref a, .int (nI (v 1)), .int (nI (v 2)), .int (nI (v 3)), .int (nI (v 4)), .int (nI (v 5)), .int (nI (v 6)), .int (nI (v 7)), .int (nI (v 8)), .int (nI (v 9)), .int (nI (v 10)), .ref c1, .ref c2, .int (nI hs.length)])), row a 256 fr, pt c1 (.inl (0, 64, .inl f1)), pt c2 (.inl (0, 64, .inl f2))] h
theorem wire_O {w : Nat} {fr : List Nat} {v : Nat → Nat} {hs : List (Nat × Nat)} : isO (wire w fr v hs) w 8 := by
  rintro h ⟨a, c1, c2, f1, f2, -, -, k⟩
  exact ⟨_, stars_at _ 0 k rfl⟩
theorem wire_o {w : Nat} {fr : List Nat} {v : Nat → Nat} {hs : List (Nat × Nat)} {L : List sA} {h : eH} (k : stars (wire w fr v hs :: L) h) : ∃ (a c1 c2 : Nat) (f1 f2 : Nat → Int32), hs.length ≤ 64 ∧ (∀ i, i < hs.length → f1 i = nI (hs.getD i (0, 0)).1 ∧ f2 i = nI (hs.getD i (0, 0)).2) ∧ stars (pt w (.inr (8, [.ref a, .int (nI (v 1)), .int (nI (v 2)), .int (nI (v 3)), .int (nI (v 4)), .int (nI (v 5)), .int (nI (v 6)), .int (nI (v 7)), .int (nI (v 8)), .int (nI (v 9)), .int (nI (v 10)), .ref c1, .ref c2, .int (nI hs.length)])) :: row a 256 fr :: pt c1 (.inl (0, 64, .inl f1)) :: pt c2 (.inl (0, 64, .inl f2)) :: L) h := by
  obtain ⟨h1, h2, hu, hj, ⟨a, c1, c2, f1, f2, p1, p2, k⟩, q⟩ := k
  exact ⟨a, c1, c2, f1, f2, p1, p2, (stars_app [_, _, _, _] L).mpr ⟨h1, h2, hu, hj, k, q⟩⟩
theorem wire_c {w a c1 c2 n : Nat} {fr : List Nat} (v : Nat → Nat) {hs : List (Nat × Nat)} {f1 f2 : Nat → Int32} {L : List sA} {h : eH} (k : stars (pt w (.inr (8, [.ref a, .int (nI (v 1)), .int (nI (v 2)), .int (nI (v 3)), .int (nI (v 4)), .int (nI (v 5)), .int (nI (v 6)), .int (nI (v 7)), .int (nI (v 8)), .int (nI (v 9)), .int (nI (v 10)), .ref c1, .ref c2, .int (nI n)])) :: row a 256 fr :: pt c1 (.inl (0, 64, .inl f1)) :: pt c2 (.inl (0, 64, .inl f2)) :: L) h) (hl : hs.length = n) (h1 : n ≤ 64) (h2 : ∀ i, i < n → f1 i = nI (hs.getD i (0, 0)).1 ∧ f2 i = nI (hs.getD i (0, 0)).2) : stars (wire w fr v hs :: L) h := by
  subst hl
  exact stars_close (K := [_, _, _, _]) k (fun h' k' => ⟨a, c1, c2, f1, f2, h1, h2, k'⟩)
/-- the place of a byte's harm -/
def ixH (hs : List (Nat × Nat)) (k : Nat) : Option Nat := hs.findIdx? (fun e => e.1 == k)
theorem ixH_none {hs : List (Nat × Nat)} {k : Nat} (h : ∀ j, j < hs.length → (hs.getD j (0, 0)).1 ≠ k) : ixH hs k = none := by
  unfold ixH
  rw [List.findIdx?_eq_none_iff]
  intro e he
  obtain ⟨j, hj, rfl⟩ := List.getElem_of_mem he
  have := h j hj
  simp only [List.getD, List.getElem?_eq_getElem hj, Option.getD_some] at this
  simpa using this
theorem ixH_some {hs : List (Nat × Nat)} {k i : Nat} (hi : i < hs.length) (h : ∀ j, j < i → (hs.getD j (0, 0)).1 ≠ k) (hx : (hs.getD i (0, 0)).1 = k) : ixH hs k = some i := by
  unfold ixH
  rw [List.findIdx?_eq_some_iff_getElem]
  simp only [List.getD, List.getElem?_eq_getElem hi, Option.getD_some] at hx
  refine ⟨hi, by simpa using hx, fun j hj => ?_⟩
  have := h j hj
  have hjl : j < hs.length := by omega
  simp only [List.getD, List.getElem?_eq_getElem hjl, Option.getD_some] at this
  simpa using this
theorem ixH_lt {hs : List (Nat × Nat)} {k i : Nat} (h : ixH hs k = some i) : i < hs.length := by
  unfold ixH at h
  rw [List.findIdx?_eq_some_iff_getElem] at h
  exact h.1
def tkX (hs : List (Nat × Nat)) (k : Nat) : Nat := match ixH hs k with
  | none => 0
  | some i => (hs.getD i (0, 0)).2
def tkL (hs : List (Nat × Nat)) (k : Nat) : List (Nat × Nat) := match ixH hs k with
  | none => hs
  | some i => (hs.set i (hs.getD (hs.length - 1) (0, 0))).take (hs.length - 1)
def teL (hs : List (Nat × Nat)) (k x : Nat) : List (Nat × Nat) := match ixH hs k with
  | none => if hs.length < 64 then hs ++ [(k, x)] else hs
  | some i => hs.set i (k, x)
def teB (hs : List (Nat × Nat)) (k : Nat) : Bool := (ixH hs k).isSome || decide (hs.length < 64)
def bgB (v : Nat → Nat) (hs : List (Nat × Nat)) : Nat → Nat := upN (upN (upN (upN v 6 (tkX hs (v 8))) 4 (tkX hs (v 8) - 256)) 5 4) 8 (v 8 + 1)
def fnB (v : Nat → Nat) (fr : List Nat) : Nat → Nat := if fr.length ≤ v 3 + 1 then upN (upN (upN (upN (upN v 7 (if v 6 < 256 then fr.getD (v 3) 0 ^^^ v 6 else fr.getD (v 3) 0)) 9 (v 9 + 1)) 3 (v 3 + 1)) 1 0) 2 0 else upN (upN (upN v 7 (if v 6 < 256 then fr.getD (v 3) 0 ^^^ v 6 else fr.getD (v 3) 0)) 9 (v 9 + 1)) 3 (v 3 + 1)
theorem hb_at {hs : List (Nat × Nat)} (hb : ∀ e ∈ hs, e.1 < 1000000 ∧ e.2 < 1000) {i : Nat} (hi : i < hs.length) : (hs.getD i (0, 0)).1 < 1000000 ∧ (hs.getD i (0, 0)).2 < 1000 := by
  simp only [List.getD, List.getElem?_eq_getElem hi, Option.getD_some]
  exact hb _ (List.getElem_mem hi)
set_option maxRecDepth 20000 in
set_option maxHeartbeats 2000000 in
/-- Wire() -/
theorem k_X10_init {w : Nat} : CA mX10_init [.ref w] [pt w (.inr (8, [.null, .int 0, .int 0, .int 0, .int 0, .int 0, .int 0, .int 0, .int 0, .int 0, .int 0, .null, .null, .int 0]))] (fun x L => x = none ∧ L = [wire w [] (upN (fun _ => 0) 2 14) []]) 2 41 4 386 := by
  refine CA.mk 0 (ls := [some (.ref w)]) rfl rfl (Nat.le_of_ble_eq_true rfl) rfl (fun h hL => ?_)
  refine e_aload_n 1 dX10_init_0 rfl rfl ?_
  refine e_objInit 4 dX10_init_1 rfl oi_X10_3 (by decide) (Nat.le_of_ble_eq_true rfl) ?_
  refine e_aload_n 5 dX10_init_4 rfl rfl ?_
  refine p_new 8 2 hL rfl dX10_init_5 rfl nc_X10_9 (by omega) (by omega) (fun q5 h hL => ?_)
  have hL : stars [pt q5 (.inr (4, [.null, .int 0])), pt w (.inr (8, [.null, .int 0, .int 0, .int 0, .int 0, .int 0, .int 0, .int 0, .int 0, .int 0, .int 0, .null, .null, .int 0]))] h := hL
  refine e_dup 9 dX10_init_8 rfl rfl ?_
  refine e_sipush 12 (v := (nI 256)) dX10_init_9 rfl (by decide) ?_
  refine p_callI 15 hL [0, 1] 2 rfl (by decide) (L1 := [pt q5 (.inr (4, [.null, .int 0]))]) (L2 := [pt w (.inr (8, [.null, .int 0, .int 0, .int 0, .int 0, .int 0, .int 0, .int 0, .int 0, .int 0, .int 0, .null, .null, .int 0]))]) rfl dX10_init_12 rfl ci_X10_11 (k_X4_init (by decide)) rfl rfl (Nat.le_of_ble_eq_true rfl) ⟨by decide, by omega, by omega⟩ (fun r1 L1 h q hL => ?_)
  obtain ⟨rfl, rfl⟩ := q
  have hL : stars [row q5 256 ([]), pt w (.inr (8, [.null, .int 0, .int 0, .int 0, .int 0, .int 0, .int 0, .int 0, .int 0, .int 0, .int 0, .null, .null, .int 0]))] h := hL
  refine p_put 18 hL 1 (fs' := [.ref q5, .int 0, .int 0, .int 0, .int 0, .int 0, .int 0, .int 0, .int 0, .int 0, .int 0, .null, .null, .int 0]) (L' := [row q5 256 ([]), pt w (.inr (8, [.ref q5, .int 0, .int 0, .int 0, .int 0, .int 0, .int 0, .int 0, .int 0, .int 0, .int 0, .null, .null, .int 0]))]) rfl rfl dX10_init_15 rfl fp_X10_14_8 (Or.inr rfl) (Nat.le_of_ble_eq_true rfl) rfl rfl rfl (fun h hL => ?_)
  refine e_aload_n 19 dX10_init_18 rfl rfl ?_
  refine e_iconst 20 (v := (nI 0)) dX10_init_19 rfl (by decide) ?_
  refine p_put 23 hL 1 (fs' := [.ref q5, .int (nI 0), .int 0, .int 0, .int 0, .int 0, .int 0, .int 0, .int 0, .int 0, .int 0, .null, .null, .int 0]) (L' := [row q5 256 ([]), pt w (.inr (8, [.ref q5, .int (nI 0), .int 0, .int 0, .int 0, .int 0, .int 0, .int 0, .int 0, .int 0, .int 0, .null, .null, .int 0]))]) rfl rfl dX10_init_20 rfl fp_X10_20_8 (Or.inl rfl) (Nat.le_of_ble_eq_true rfl) rfl rfl rfl (fun h hL => ?_)
  refine e_aload_n 24 dX10_init_23 rfl rfl ?_
  refine e_bipush 26 (v := (nI 14)) dX10_init_24 rfl (by decide) ?_
  refine p_put 29 hL 1 (fs' := [.ref q5, .int (nI 0), .int (nI 14), .int 0, .int 0, .int 0, .int 0, .int 0, .int 0, .int 0, .int 0, .null, .null, .int 0]) (L' := [row q5 256 ([]), pt w (.inr (8, [.ref q5, .int (nI 0), .int (nI 14), .int 0, .int 0, .int 0, .int 0, .int 0, .int 0, .int 0, .int 0, .null, .null, .int 0]))]) rfl rfl dX10_init_26 rfl fp_X10_24_8 (Or.inl rfl) (Nat.le_of_ble_eq_true rfl) rfl rfl rfl (fun h hL => ?_)
  refine e_aload_n 30 dX10_init_29 rfl rfl ?_
  refine e_bipush 32 (v := (nI 64)) dX10_init_30 rfl (by decide) ?_
  refine p_newI 34 hL (N := 64) dX10_init_32 rfl (nI_pos (by omega)) (nI_clamp (by omega)) (by omega) (by omega) (by omega) (fun q32 h hL => ?_)
  refine p_put 37 hL 2 (fs' := [.ref q5, .int (nI 0), .int (nI 14), .int 0, .int 0, .int 0, .int 0, .int 0, .int 0, .int 0, .int 0, .ref q32, .null, .int 0]) (L' := [pt q32 (.inl (0, 64, .inl (fun _ => 0))), row q5 256 ([]), pt w (.inr (8, [.ref q5, .int (nI 0), .int (nI 14), .int 0, .int 0, .int 0, .int 0, .int 0, .int 0, .int 0, .int 0, .ref q32, .null, .int 0]))]) rfl rfl dX10_init_34 rfl fp_X10_27_8 (Or.inr rfl) (Nat.le_of_ble_eq_true rfl) rfl rfl rfl (fun h hL => ?_)
  refine e_aload_n 38 dX10_init_37 rfl rfl ?_
  refine e_bipush 40 (v := (nI 64)) dX10_init_38 rfl (by decide) ?_
  refine p_newI 42 hL (N := 64) dX10_init_40 rfl (nI_pos (by omega)) (nI_clamp (by omega)) (by omega) (by omega) (by omega) (fun q40 h hL => ?_)
  refine p_put 45 hL 3 (fs' := [.ref q5, .int (nI 0), .int (nI 14), .int 0, .int 0, .int 0, .int 0, .int 0, .int 0, .int 0, .int 0, .ref q32, .ref q40, .int 0]) (L' := [pt q40 (.inl (0, 64, .inl (fun _ => 0))), pt q32 (.inl (0, 64, .inl (fun _ => 0))), row q5 256 ([]), pt w (.inr (8, [.ref q5, .int (nI 0), .int (nI 14), .int 0, .int 0, .int 0, .int 0, .int 0, .int 0, .int 0, .int 0, .ref q32, .ref q40, .int 0]))]) rfl rfl dX10_init_42 rfl fp_X10_31_8 (Or.inr rfl) (Nat.le_of_ble_eq_true rfl) rfl rfl rfl (fun h hL => ?_)
  exact e_vret dX10_init_45 rfl (by omega) (by omega) (⟨_, ⟨rfl, rfl⟩, wire_c (upN (fun _ => 0) 2 14) (hs := []) (L := []) (stars_ix hL [3, 2, 1, 0] rfl rfl) rfl (Nat.zero_le _) (fun i hi => absurd hi (Nat.not_lt_zero _))⟩)
set_option maxRecDepth 20000 in
set_option maxHeartbeats 2000000 in
theorem l_X10_indexOfHarm {w a c1 c2 k f0 l0 : Nat} {fr : List Nat} {v : Nat → Nat} {hs : List (Nat × Nat)} {f1 f2 : Nat → Int32} (hn : hs.length ≤ 64) (hfg : ∀ i, i < hs.length → f1 i = nI (hs.getD i (0, 0)).1 ∧ f2 i = nI (hs.getD i (0, 0)).2) (hb : ∀ e ∈ hs, e.1 < 1000000 ∧ e.2 < 1000) (hk : k < 2000000) : ∀ (n : Nat) (i : Nat) (h : eH), hs.length - i < n → i ≤ hs.length → (∀ j, j < i → (hs.getD j (0, 0)).1 ≠ k) → stars [pt w (.inr (8, [.ref a, .int (nI (v 1)), .int (nI (v 2)), .int (nI (v 3)), .int (nI (v 4)), .int (nI (v 5)), .int (nI (v 6)), .int (nI (v 7)), .int (nI (v 8)), .int (nI (v 9)), .int (nI (v 10)), .ref c1, .ref c2, .int (nI hs.length)])), row a 256 fr, pt c1 (.inl (0, 64, .inl f1)), pt c2 (.inl (0, 64, .inl f2))] h → EE mX10_indexOfHarm f0 l0 0 0 (fun r h' => ∃ L', (r = some (.int (oI (ixH hs k))) ∧ L' = [wire w fr v hs]) ∧ stars L' h') 2 [some (.ref w), some (.int (nI k)), some (.int (nI i))] [] h 0 0 := by
  intro n
  induction n with
  | zero => intro i h hlt hi he hL; exact absurd hlt (by omega)
  | succ n ih =>
    intro i h hlt hi he hL
    have hbi : i < hs.length → _ := hb_at hb (i := i)
    refine e_iload_n 3 dX10_indexOfHarm_2 rfl rfl ?_
    refine e_aload_n 4 dX10_indexOfHarm_3 rfl rfl ?_
    refine e_get 7 dX10_indexOfHarm_4 rfl fl_X10_97_8 (stars_at _ 0 hL rfl) rfl ?_
    refine e_icmp_ge 28 10 dX10_indexOfHarm_7 rfl rfl (fun c7 => ?_) (fun c7 => ?_)
    · have k7 := j_ge_t (a := i) (b := hs.length) (by omega) (by omega) c7
      refine e_iconst 29 (v := (-1)) dX10_indexOfHarm_28 rfl (by decide) ?_
      exact e_iret dX10_indexOfHarm_29 rfl (by omega) (by omega) (⟨_, ⟨by rw [ixH_none (fun j hj => he j (by omega))]; rfl, rfl⟩, wire_c v (L := []) hL rfl hn hfg⟩)
    · have k7 := j_ge_f (a := i) (b := hs.length) (by omega) (by omega) c7
      refine e_aload_n 11 dX10_indexOfHarm_10 rfl rfl ?_
      refine e_get 14 dX10_indexOfHarm_11 rfl fl_X10_27_8 (stars_at _ 0 hL rfl) rfl ?_
      refine e_iload_n 15 dX10_indexOfHarm_14 rfl rfl ?_
      refine e_iald 16 (v := (nI (hs.getD i (0, 0)).1)) dX10_indexOfHarm_15 rfl (stars_at _ 2 hL rfl) (vp_in_nI (by omega) (by omega)) ((congrArg f1 (nI_clamp (by omega))).trans (hfg i (by omega)).1) ?_
      refine e_iload_n 17 dX10_indexOfHarm_16 rfl rfl ?_
      refine e_icmp_ne 22 20 dX10_indexOfHarm_17 rfl rfl (fun c17 => ?_) (fun c17 => ?_)
      · have k17 := j_ne_t (a := (hs.getD i (0, 0)).1) (b := k) (by omega) (by omega) c17
        refine e_iinc 25 (v := (nI (i + 1))) (ls' := [some (.ref w), some (.int (nI k)), some (.int (nI (i + 1)))]) dX10_indexOfHarm_22 rfl rfl (nI_add i 1) (by decide) rfl ?_
        refine e_goto 2 dX10_indexOfHarm_25 rfl ?_
        exact ih (i + 1) h (by omega) (by omega) (lt_s he k17) hL
      · have k17 := j_ne_f (a := (hs.getD i (0, 0)).1) (b := k) (by omega) (by omega) c17
        refine e_iload_n 21 dX10_indexOfHarm_20 rfl rfl ?_
        exact e_iret dX10_indexOfHarm_21 rfl (by omega) (by omega) (⟨_, ⟨by rw [ixH_some (by omega) he k17]; rfl, rfl⟩, wire_c v (L := []) hL rfl hn hfg⟩)
set_option maxRecDepth 20000 in
set_option maxHeartbeats 2000000 in
/-- indexOfHarm(k) -/
theorem k_X10_indexOfHarm {w : Nat} {fr : List Nat} {v : Nat → Nat} {hs : List (Nat × Nat)} (hb : ∀ e ∈ hs, e.1 < 1000000 ∧ e.2 < 1000) {k : Nat} (hk : k < 2000000) : CA mX10_indexOfHarm [.ref w, .int (nI k)] [wire w fr v hs] (fun r L => r = some (.int (oI (ixH hs k))) ∧ L = [wire w fr v hs]) 0 0 0 0 := by
  refine CA.mk 1 (ls := [some (.ref w), some (.int (nI k)), none]) rfl rfl (Nat.le_of_ble_eq_true rfl) rfl (fun h hL => ?_)
  obtain ⟨a, c1, c2, f1, f2, hn, hfg, hL⟩ := wire_o hL
  refine e_iconst 1 (v := (nI 0)) dX10_indexOfHarm_0 rfl (by decide) ?_
  refine e_istore_n 2 (ls' := [some (.ref w), some (.int (nI k)), some (.int (nI 0))]) dX10_indexOfHarm_1 rfl (by decide) rfl ?_
  exact l_X10_indexOfHarm hn hfg hb hk (hs.length + 1) 0 h (by omega) (by omega) lt_0 hL
theorem tk_f {hs : List (Nat × Nat)} {f1 f2 : Nat → Int32} {i : Nat} (hi : i < hs.length) (h : ∀ i, i < hs.length → f1 i = nI (hs.getD i (0, 0)).1 ∧ f2 i = nI (hs.getD i (0, 0)).2) : ∀ j, j < hs.length - 1 → upd f1 i (f1 (hs.length - 1)) j = nI (((hs.set i (hs.getD (hs.length - 1) (0, 0))).take (hs.length - 1)).getD j (0, 0)).1 ∧ upd f2 i (f2 (hs.length - 1)) j = nI (((hs.set i (hs.getD (hs.length - 1) (0, 0))).take (hs.length - 1)).getD j (0, 0)).2 := by
  intro j hj
  have e0 : ((hs.set i (hs.getD (hs.length - 1) (0, 0))).take (hs.length - 1)).getD j (0, 0) = (hs.set i (hs.getD (hs.length - 1) (0, 0))).getD j (0, 0) := by
    simp only [List.getD, List.getElem?_take, if_pos hj]
  rw [e0]
  by_cases e : j = i
  · subst e
    rw [pk_us, pk_us]
    have e1 : (hs.set j (hs.getD (hs.length - 1) (0, 0))).getD j (0, 0) = hs.getD (hs.length - 1) (0, 0) := by
      simp [List.getD, hi]
    rw [e1]
    exact h _ (by omega)
  · rw [pk_un e, pk_un e]
    have e1 : (hs.set i (hs.getD (hs.length - 1) (0, 0))).getD j (0, 0) = hs.getD j (0, 0) := by
      simp [List.getD, List.getElem?_set_ne (Ne.symm e)]
    rw [e1]
    exact h _ (by omega)
theorem tk_len {hs : List (Nat × Nat)} {i : Nat} {e : Nat × Nat} : ((hs.set i e).take (hs.length - 1)).length = hs.length - 1 := by
  rw [List.length_take, List.length_set]
  omega
set_option maxRecDepth 20000 in
set_option maxHeartbeats 2000000 in
/-- takeHarm() -/
theorem k_X10_takeHarm {w : Nat} {fr : List Nat} {v : Nat → Nat} {hs : List (Nat × Nat)} (hb : ∀ e ∈ hs, e.1 < 1000000 ∧ e.2 < 1000) (h8 : v 8 < 1000000) : CA mX10_takeHarm [.ref w] [wire w fr v hs] (fun r L => r = some (.int (nI (tkX hs (v 8)))) ∧ L = [wire w fr v (tkL hs (v 8))]) 1 22 0 0 := by
  refine CA.mk 2 (ls := [some (.ref w), none, none]) rfl rfl (Nat.le_of_ble_eq_true rfl) rfl (fun h hL => ?_)
  obtain ⟨a, c1, c2, f1, f2, hn, hfg, hL⟩ := wire_o hL
  refine e_aload_n 1 dX10_takeHarm_0 rfl rfl ?_
  refine e_aload_n 2 dX10_takeHarm_1 rfl rfl ?_
  refine e_get 5 dX10_takeHarm_2 rfl fl_X10_82_8 (stars_at _ 0 hL rfl) rfl ?_
  have hL := wire_c v (L := []) hL rfl hn hfg
  refine p_callV 8 hL [0] 1 rfl (by decide) (L1 := [wire w fr v hs]) (L2 := []) rfl wire_O 0 rfl dX10_takeHarm_5 rfl cv_X10_94 (k_X10_indexOfHarm hb (by omega)) rfl rfl (Nat.le_of_ble_eq_true rfl) ⟨by decide, by omega, by omega⟩ (fun r1 L1 h q hL => ?_)
  obtain ⟨rfl, rfl⟩ := q
  have hL : stars [wire w fr v hs] h := hL
  obtain ⟨a, c1, c2, f1, f2, hn, hfg, hL⟩ := wire_o hL
  cases hix : ixH hs (v 8) with
  | none =>
    refine e_istore_n 9 (ls' := [some (.ref w), some (.int (-1)), none]) dX10_takeHarm_8 rfl (by decide) rfl ?_
    refine e_iload_n 10 dX10_takeHarm_9 rfl rfl ?_
    refine e_if_lt 21 13 dX10_takeHarm_10 rfl rfl (fun c10 => ?_) (fun c10 => absurd c10 (fun z => z (by decide)))
    refine e_iconst 22 (v := (nI 0)) dX10_takeHarm_21 rfl (by decide) ?_
    exact e_iret dX10_takeHarm_22 rfl (by omega) (by omega) (⟨_, ⟨by simp only [tkX, hix], rfl⟩, by simp only [tkL, hix]; exact wire_c v (L := []) hL rfl hn hfg⟩)
  | some i =>
    have hil := ixH_lt hix
    have hbi := hb_at hb hil
    refine e_istore_n 9 (ls' := [some (.ref w), some (.int (nI i)), none]) dX10_takeHarm_8 rfl (by decide) rfl ?_
    refine e_iload_n 10 dX10_takeHarm_9 rfl rfl ?_
    refine e_if_lt 21 13 dX10_takeHarm_10 rfl rfl (fun c10 => absurd c10 (nI_pos (by omega))) (fun c10 => ?_)
    refine e_iload_n 14 dX10_takeHarm_13 rfl rfl ?_
    refine e_aload_n 15 dX10_takeHarm_14 rfl rfl ?_
    refine e_get 18 dX10_takeHarm_15 rfl fl_X10_97_8 (stars_at _ 0 hL rfl) rfl ?_
    refine e_icmp_lt 23 21 dX10_takeHarm_18 rfl rfl (fun c18 => ?_) (fun c18 => absurd c18 (fun z => z (nI_lt (by omega) (by omega))))
    refine e_aload_n 24 dX10_takeHarm_23 rfl rfl ?_
    refine e_get 27 dX10_takeHarm_24 rfl fl_X10_31_8 (stars_at _ 0 hL rfl) rfl ?_
    refine e_iload_n 28 dX10_takeHarm_27 rfl rfl ?_
    refine e_iald 29 (v := (nI (hs.getD i (0, 0)).2)) dX10_takeHarm_28 rfl (stars_at _ 3 hL rfl) (vp_in_nI (by omega) (by omega)) ((congrArg f2 (nI_clamp (by omega))).trans (hfg i (by omega)).2) ?_
    refine e_istore_n 30 (ls' := [some (.ref w), some (.int (nI i)), some (.int (nI (hs.getD i (0, 0)).2))]) dX10_takeHarm_29 rfl (by decide) rfl ?_
    refine e_aload_n 31 dX10_takeHarm_30 rfl rfl ?_
    refine e_dup 32 dX10_takeHarm_31 rfl rfl ?_
    refine e_get 35 dX10_takeHarm_32 rfl fl_X10_97_8 (stars_at _ 0 hL rfl) rfl ?_
    refine e_iconst 36 (v := (nI 1)) dX10_takeHarm_35 rfl (by decide) ?_
    refine e_isub 37 (v := (nI (hs.length - 1))) dX10_takeHarm_36 rfl (pk_sub (by omega)) ?_
    refine p_put 40 hL 0 (fs' := [.ref a, .int (nI (v 1)), .int (nI (v 2)), .int (nI (v 3)), .int (nI (v 4)), .int (nI (v 5)), .int (nI (v 6)), .int (nI (v 7)), .int (nI (v 8)), .int (nI (v 9)), .int (nI (v 10)), .ref c1, .ref c2, .int (nI (hs.length - 1))]) (L' := [pt w (.inr (8, [.ref a, .int (nI (v 1)), .int (nI (v 2)), .int (nI (v 3)), .int (nI (v 4)), .int (nI (v 5)), .int (nI (v 6)), .int (nI (v 7)), .int (nI (v 8)), .int (nI (v 9)), .int (nI (v 10)), .ref c1, .ref c2, .int (nI (hs.length - 1))])), row a 256 fr, pt c1 (.inl (0, 64, .inl f1)), pt c2 (.inl (0, 64, .inl f2))]) rfl rfl dX10_takeHarm_37 rfl fp_X10_97_8 (Or.inl rfl) (Nat.le_of_ble_eq_true rfl) rfl rfl rfl (fun h hL => ?_)
    refine e_aload_n 41 dX10_takeHarm_40 rfl rfl ?_
    refine e_get 44 dX10_takeHarm_41 rfl fl_X10_27_8 (stars_at _ 0 hL rfl) rfl ?_
    refine e_iload_n 45 dX10_takeHarm_44 rfl rfl ?_
    refine e_aload_n 46 dX10_takeHarm_45 rfl rfl ?_
    refine e_get 49 dX10_takeHarm_46 rfl fl_X10_27_8 (stars_at _ 0 hL rfl) rfl ?_
    refine e_aload_n 50 dX10_takeHarm_49 rfl rfl ?_
    refine e_get 53 dX10_takeHarm_50 rfl fl_X10_97_8 (stars_at _ 0 hL rfl) rfl ?_
    refine e_iald 54 (v := (f1 (hs.length - 1))) dX10_takeHarm_53 rfl (stars_at _ 2 hL rfl) (vp_in_nI (by omega) (by omega)) (congrArg f1 (nI_clamp (by omega))) ?_
    refine p_iast 55 hL 2 (k := i) (L' := [pt w (.inr (8, [.ref a, .int (nI (v 1)), .int (nI (v 2)), .int (nI (v 3)), .int (nI (v 4)), .int (nI (v 5)), .int (nI (v 6)), .int (nI (v 7)), .int (nI (v 8)), .int (nI (v 9)), .int (nI (v 10)), .ref c1, .ref c2, .int (nI (hs.length - 1))])), row a 256 fr, pt c1 (.inl (0, 64, .inl (upd f1 i (f1 (hs.length - 1))))), pt c2 (.inl (0, 64, .inl f2))]) rfl rfl dX10_takeHarm_54 rfl (vp_in_nI (by omega) (by omega)) (nI_clamp (by omega)) (fun h hL => ?_)
    refine e_aload_n 56 dX10_takeHarm_55 rfl rfl ?_
    refine e_get 59 dX10_takeHarm_56 rfl fl_X10_31_8 (stars_at _ 0 hL rfl) rfl ?_
    refine e_iload_n 60 dX10_takeHarm_59 rfl rfl ?_
    refine e_aload_n 61 dX10_takeHarm_60 rfl rfl ?_
    refine e_get 64 dX10_takeHarm_61 rfl fl_X10_31_8 (stars_at _ 0 hL rfl) rfl ?_
    refine e_aload_n 65 dX10_takeHarm_64 rfl rfl ?_
    refine e_get 68 dX10_takeHarm_65 rfl fl_X10_97_8 (stars_at _ 0 hL rfl) rfl ?_
    refine e_iald 69 (v := (f2 (hs.length - 1))) dX10_takeHarm_68 rfl (stars_at _ 3 hL rfl) (vp_in_nI (by omega) (by omega)) (congrArg f2 (nI_clamp (by omega))) ?_
    refine p_iast 70 hL 3 (k := i) (L' := [pt w (.inr (8, [.ref a, .int (nI (v 1)), .int (nI (v 2)), .int (nI (v 3)), .int (nI (v 4)), .int (nI (v 5)), .int (nI (v 6)), .int (nI (v 7)), .int (nI (v 8)), .int (nI (v 9)), .int (nI (v 10)), .ref c1, .ref c2, .int (nI (hs.length - 1))])), row a 256 fr, pt c1 (.inl (0, 64, .inl (upd f1 i (f1 (hs.length - 1))))), pt c2 (.inl (0, 64, .inl (upd f2 i (f2 (hs.length - 1)))))]) rfl rfl dX10_takeHarm_69 rfl (vp_in_nI (by omega) (by omega)) (nI_clamp (by omega)) (fun h hL => ?_)
    refine e_iload_n 71 dX10_takeHarm_70 rfl rfl ?_
    exact e_iret dX10_takeHarm_71 rfl (by omega) (by omega) (⟨_, ⟨by simp only [tkX, hix], rfl⟩, by simp only [tkL, hix]; exact wire_c v (L := []) hL tk_len (by omega) (tk_f hil hfg)⟩)
theorem tkX_lt {hs : List (Nat × Nat)} {k : Nat} (hb : ∀ e ∈ hs, e.1 < 1000000 ∧ e.2 < 1000) : tkX hs k < 1000 := by
  unfold tkX
  cases h : ixH hs k with
  | none => exact Nat.succ_pos 999
  | some i => exact (hb_at hb (ixH_lt h)).2
theorem max_sub {x : Nat} (h : x < 1000) : (if nI 0 < nI x - nI 256 then nI x - nI 256 else nI 0) = nI (x - 256) := by
  have e := pk_sub_toInt (a := x) (b := 256) (by omega) (by decide)
  by_cases q : 256 < x
  · rw [if_pos (by rw [Int32.lt_iff_toInt_lt, e, nI_toInt (by decide)]; omega), pk_sub (by omega)]
  · rw [if_neg (by rw [Int32.lt_iff_toInt_lt, e, nI_toInt (by decide)]; omega), show x - 256 = 0 by omega]
set_option maxRecDepth 20000 in
set_option maxHeartbeats 2000000 in
/-- beginByte() -/
theorem k_X10_beginByte {w : Nat} {fr : List Nat} {v : Nat → Nat} {hs : List (Nat × Nat)} (hb : ∀ e ∈ hs, e.1 < 1000000 ∧ e.2 < 1000) (h8 : v 8 < 1000000) : CA mX10_beginByte [.ref w] [wire w fr v hs] (fun r L => r = none ∧ L = [wire w fr (bgB v hs) (tkL hs (v 8))]) 2 44 0 0 := by
  refine CA.mk 0 (ls := [some (.ref w)]) rfl rfl (Nat.le_of_ble_eq_true rfl) rfl (fun h hL => ?_)
  refine e_aload_n 1 dX10_beginByte_0 rfl rfl ?_
  refine e_aload_n 2 dX10_beginByte_1 rfl rfl ?_
  refine p_callV 5 hL [0] 1 rfl (by decide) (L1 := [wire w fr v hs]) (L2 := []) rfl wire_O 0 rfl dX10_beginByte_2 rfl cv_X10_72 (k_X10_takeHarm hb h8) rfl rfl (Nat.le_of_ble_eq_true rfl) ⟨by decide, by omega, by omega⟩ (fun r1 L1 h q hL => ?_)
  obtain ⟨rfl, rfl⟩ := q
  have hL : stars [wire w fr v (tkL hs (v 8))] h := hL
  obtain ⟨a, c1, c2, f1, f2, hn, hfg, hL⟩ := wire_o hL
  refine p_put 8 hL 0 (fs' := [.ref a, .int (nI (v 1)), .int (nI (v 2)), .int (nI (v 3)), .int (nI (v 4)), .int (nI (v 5)), .int (nI (tkX hs (v 8))), .int (nI (v 7)), .int (nI (v 8)), .int (nI (v 9)), .int (nI (v 10)), .ref c1, .ref c2, .int (nI (tkL hs (v 8)).length)]) (L' := [pt w (.inr (8, [.ref a, .int (nI (v 1)), .int (nI (v 2)), .int (nI (v 3)), .int (nI (v 4)), .int (nI (v 5)), .int (nI (tkX hs (v 8))), .int (nI (v 7)), .int (nI (v 8)), .int (nI (v 9)), .int (nI (v 10)), .ref c1, .ref c2, .int (nI (tkL hs (v 8)).length)])), row a 256 fr, pt c1 (.inl (0, 64, .inl f1)), pt c2 (.inl (0, 64, .inl f2))]) rfl rfl dX10_beginByte_5 rfl fp_X10_69_8 (Or.inl rfl) (Nat.le_of_ble_eq_true rfl) rfl rfl rfl (fun h hL => ?_)
  refine e_aload_n 9 dX10_beginByte_8 rfl rfl ?_
  refine e_iconst 10 (v := (nI 0)) dX10_beginByte_9 rfl (by decide) ?_
  refine e_aload_n 11 dX10_beginByte_10 rfl rfl ?_
  refine e_get 14 dX10_beginByte_11 rfl fl_X10_69_8 (stars_at _ 0 hL rfl) rfl ?_
  refine e_sipush 17 (v := (nI 256)) dX10_beginByte_14 rfl (by decide) ?_
  refine e_isub 18 (v := ((nI (tkX hs (v 8))) - (nI 256))) dX10_beginByte_17 rfl rfl ?_
  refine e_max 21 (v := (nI (tkX hs (v 8) - 256))) dX10_beginByte_18 rfl ma_X10_76 (by decide) (Nat.le_of_ble_eq_true rfl) (by omega) (max_sub (tkX_lt hb)) ?_
  refine p_put 24 hL 0 (fs' := [.ref a, .int (nI (v 1)), .int (nI (v 2)), .int (nI (v 3)), .int (nI (tkX hs (v 8) - 256)), .int (nI (v 5)), .int (nI (tkX hs (v 8))), .int (nI (v 7)), .int (nI (v 8)), .int (nI (v 9)), .int (nI (v 10)), .ref c1, .ref c2, .int (nI (tkL hs (v 8)).length)]) (L' := [pt w (.inr (8, [.ref a, .int (nI (v 1)), .int (nI (v 2)), .int (nI (v 3)), .int (nI (tkX hs (v 8) - 256)), .int (nI (v 5)), .int (nI (tkX hs (v 8))), .int (nI (v 7)), .int (nI (v 8)), .int (nI (v 9)), .int (nI (v 10)), .ref c1, .ref c2, .int (nI (tkL hs (v 8)).length)])), row a 256 fr, pt c1 (.inl (0, 64, .inl f1)), pt c2 (.inl (0, 64, .inl f2))]) rfl rfl dX10_beginByte_21 rfl fp_X10_57_8 (Or.inl rfl) (Nat.le_of_ble_eq_true rfl) rfl rfl rfl (fun h hL => ?_)
  refine e_aload_n 25 dX10_beginByte_24 rfl rfl ?_
  refine e_iconst 26 (v := (nI 4)) dX10_beginByte_25 rfl (by decide) ?_
  refine p_put 29 hL 0 (fs' := [.ref a, .int (nI (v 1)), .int (nI (v 2)), .int (nI (v 3)), .int (nI (tkX hs (v 8) - 256)), .int (nI 4), .int (nI (tkX hs (v 8))), .int (nI (v 7)), .int (nI (v 8)), .int (nI (v 9)), .int (nI (v 10)), .ref c1, .ref c2, .int (nI (tkL hs (v 8)).length)]) (L' := [pt w (.inr (8, [.ref a, .int (nI (v 1)), .int (nI (v 2)), .int (nI (v 3)), .int (nI (tkX hs (v 8) - 256)), .int (nI 4), .int (nI (tkX hs (v 8))), .int (nI (v 7)), .int (nI (v 8)), .int (nI (v 9)), .int (nI (v 10)), .ref c1, .ref c2, .int (nI (tkL hs (v 8)).length)])), row a 256 fr, pt c1 (.inl (0, 64, .inl f1)), pt c2 (.inl (0, 64, .inl f2))]) rfl rfl dX10_beginByte_26 rfl fp_X10_54_8 (Or.inl rfl) (Nat.le_of_ble_eq_true rfl) rfl rfl rfl (fun h hL => ?_)
  refine e_aload_n 30 dX10_beginByte_29 rfl rfl ?_
  refine e_dup 31 dX10_beginByte_30 rfl rfl ?_
  refine e_get 34 dX10_beginByte_31 rfl fl_X10_82_8 (stars_at _ 0 hL rfl) rfl ?_
  refine e_iconst 35 (v := (nI 1)) dX10_beginByte_34 rfl (by decide) ?_
  refine e_iadd 36 (v := (nI ((v 8) + 1))) dX10_beginByte_35 rfl (nI_add (v 8) 1) ?_
  refine p_put 39 hL 0 (fs' := [.ref a, .int (nI (v 1)), .int (nI (v 2)), .int (nI (v 3)), .int (nI (tkX hs (v 8) - 256)), .int (nI 4), .int (nI (tkX hs (v 8))), .int (nI (v 7)), .int (nI ((v 8) + 1)), .int (nI (v 9)), .int (nI (v 10)), .ref c1, .ref c2, .int (nI (tkL hs (v 8)).length)]) (L' := [pt w (.inr (8, [.ref a, .int (nI (v 1)), .int (nI (v 2)), .int (nI (v 3)), .int (nI (tkX hs (v 8) - 256)), .int (nI 4), .int (nI (tkX hs (v 8))), .int (nI (v 7)), .int (nI ((v 8) + 1)), .int (nI (v 9)), .int (nI (v 10)), .ref c1, .ref c2, .int (nI (tkL hs (v 8)).length)])), row a 256 fr, pt c1 (.inl (0, 64, .inl f1)), pt c2 (.inl (0, 64, .inl f2))]) rfl rfl dX10_beginByte_36 rfl fp_X10_82_8 (Or.inl rfl) (Nat.le_of_ble_eq_true rfl) rfl rfl rfl (fun h hL => ?_)
  exact e_vret dX10_beginByte_39 rfl (by omega) (by omega) (⟨_, ⟨rfl, rfl⟩, wire_c (bgB v hs) (L := []) hL rfl hn hfg⟩)
set_option maxRecDepth 20000 in
set_option maxHeartbeats 2000000 in
/-- finishByte() -/
theorem k_X10_finishByte {w : Nat} {fr : List Nat} {v : Nat → Nat} {hs : List (Nat × Nat)} (h3 : v 3 < 1000000) (h6 : v 6 < 1000) (h9 : v 9 < 1000000) : CA mX10_finishByte [.ref w] [wire w fr v hs] (fun r L => r = none ∧ L = [wire w fr (fnB v fr) hs]) 1 21 0 0 := by
  refine CA.mk 0 (ls := [some (.ref w)]) rfl rfl (Nat.le_of_ble_eq_true rfl) rfl (fun h hL => ?_)
  obtain ⟨a, c1, c2, f1, f2, hn, hfg, hL⟩ := wire_o hL
  have hlen := row_len _ 1 hL rfl
  refine e_aload_n 1 dX10_finishByte_0 rfl rfl ?_
  refine e_aload_n 2 dX10_finishByte_1 rfl rfl ?_
  refine e_get 5 dX10_finishByte_2 rfl fl_X10_69_8 (stars_at _ 0 hL rfl) rfl ?_
  refine e_sipush 8 (v := (nI 256)) dX10_finishByte_5 rfl (by decide) ?_
  refine e_icmp_ge 30 11 dX10_finishByte_8 rfl rfl (fun c8 => ?_) (fun c8 => ?_)
  · have k8 := j_ge_t (a := (v 6)) (b := 256) (by omega) (by omega) c8
    refine e_aload_n 31 dX10_finishByte_30 rfl rfl ?_
    refine e_get 34 dX10_finishByte_31 rfl fl_X10_14_8 (stars_at _ 0 hL rfl) rfl ?_
    refine e_aload_n 35 dX10_finishByte_34 rfl rfl ?_
    refine e_get 38 dX10_finishByte_35 rfl fl_X10_51_8 (stars_at _ 0 hL rfl) rfl ?_
    refine p_callV 41 hL [1, 0, 2, 3] 4 rfl (by decide) (L1 := [row a 256 fr]) (L2 := [pt w (.inr (8, [.ref a, .int (nI (v 1)), .int (nI (v 2)), .int (nI (v 3)), .int (nI (v 4)), .int (nI (v 5)), .int (nI (v 6)), .int (nI (v 7)), .int (nI (v 8)), .int (nI (v 9)), .int (nI (v 10)), .ref c1, .ref c2, .int (nI hs.length)])), pt c1 (.inl (0, 64, .inl f1)), pt c2 (.inl (0, 64, .inl f2))]) rfl row_O 1 rfl dX10_finishByte_38 rfl cv_X10_85 (k_X4_at (by omega)) rfl rfl (Nat.le_of_ble_eq_true rfl) ⟨by decide, by omega, by omega⟩ (fun r1 L1 h q hL => ?_)
    obtain ⟨rfl, rfl⟩ := q
    have hL : stars [row a 256 fr, pt w (.inr (8, [.ref a, .int (nI (v 1)), .int (nI (v 2)), .int (nI (v 3)), .int (nI (v 4)), .int (nI (v 5)), .int (nI (v 6)), .int (nI (v 7)), .int (nI (v 8)), .int (nI (v 9)), .int (nI (v 10)), .ref c1, .ref c2, .int (nI hs.length)])), pt c1 (.inl (0, 64, .inl f1)), pt c2 (.inl (0, 64, .inl f2))] h := hL
    have hL : stars [pt w (.inr (8, [.ref a, .int (nI (v 1)), .int (nI (v 2)), .int (nI (v 3)), .int (nI (v 4)), .int (nI (v 5)), .int (nI (v 6)), .int (nI (v 7)), .int (nI (v 8)), .int (nI (v 9)), .int (nI (v 10)), .ref c1, .ref c2, .int (nI hs.length)])), row a 256 fr, pt c1 (.inl (0, 64, .inl f1)), pt c2 (.inl (0, 64, .inl f2))] h := stars_ixn hL 4 rfl [1, 0, 2, 3] (by decide) rfl
    refine p_put 44 hL 0 (fs' := [.ref a, .int (nI (v 1)), .int (nI (v 2)), .int (nI (v 3)), .int (nI (v 4)), .int (nI (v 5)), .int (nI (v 6)), .int (nI (fr.getD (v 3) 0)), .int (nI (v 8)), .int (nI (v 9)), .int (nI (v 10)), .ref c1, .ref c2, .int (nI hs.length)]) (L' := [pt w (.inr (8, [.ref a, .int (nI (v 1)), .int (nI (v 2)), .int (nI (v 3)), .int (nI (v 4)), .int (nI (v 5)), .int (nI (v 6)), .int (nI (fr.getD (v 3) 0)), .int (nI (v 8)), .int (nI (v 9)), .int (nI (v 10)), .ref c1, .ref c2, .int (nI hs.length)])), row a 256 fr, pt c1 (.inl (0, 64, .inl f1)), pt c2 (.inl (0, 64, .inl f2))]) rfl rfl dX10_finishByte_41 rfl fp_X10_88_8 (Or.inl rfl) (Nat.le_of_ble_eq_true rfl) rfl rfl rfl (fun h hL => ?_)
    refine e_aload_n 45 dX10_finishByte_44 rfl rfl ?_
    refine e_dup 46 dX10_finishByte_45 rfl rfl ?_
    refine e_get 49 dX10_finishByte_46 rfl fl_X10_91_8 (stars_at _ 0 hL rfl) rfl ?_
    refine e_iconst 50 (v := (nI 1)) dX10_finishByte_49 rfl (by decide) ?_
    refine e_iadd 51 (v := (nI ((v 9) + 1))) dX10_finishByte_50 rfl (nI_add (v 9) 1) ?_
    refine p_put 54 hL 0 (fs' := [.ref a, .int (nI (v 1)), .int (nI (v 2)), .int (nI (v 3)), .int (nI (v 4)), .int (nI (v 5)), .int (nI (v 6)), .int (nI (fr.getD (v 3) 0)), .int (nI (v 8)), .int (nI ((v 9) + 1)), .int (nI (v 10)), .ref c1, .ref c2, .int (nI hs.length)]) (L' := [pt w (.inr (8, [.ref a, .int (nI (v 1)), .int (nI (v 2)), .int (nI (v 3)), .int (nI (v 4)), .int (nI (v 5)), .int (nI (v 6)), .int (nI (fr.getD (v 3) 0)), .int (nI (v 8)), .int (nI ((v 9) + 1)), .int (nI (v 10)), .ref c1, .ref c2, .int (nI hs.length)])), row a 256 fr, pt c1 (.inl (0, 64, .inl f1)), pt c2 (.inl (0, 64, .inl f2))]) rfl rfl dX10_finishByte_51 rfl fp_X10_91_8 (Or.inl rfl) (Nat.le_of_ble_eq_true rfl) rfl rfl rfl (fun h hL => ?_)
    refine e_aload_n 55 dX10_finishByte_54 rfl rfl ?_
    refine e_dup 56 dX10_finishByte_55 rfl rfl ?_
    refine e_get 59 dX10_finishByte_56 rfl fl_X10_51_8 (stars_at _ 0 hL rfl) rfl ?_
    refine e_iconst 60 (v := (nI 1)) dX10_finishByte_59 rfl (by decide) ?_
    refine e_iadd 61 (v := (nI ((v 3) + 1))) dX10_finishByte_60 rfl (nI_add (v 3) 1) ?_
    refine p_put 64 hL 0 (fs' := [.ref a, .int (nI (v 1)), .int (nI (v 2)), .int (nI ((v 3) + 1)), .int (nI (v 4)), .int (nI (v 5)), .int (nI (v 6)), .int (nI (fr.getD (v 3) 0)), .int (nI (v 8)), .int (nI ((v 9) + 1)), .int (nI (v 10)), .ref c1, .ref c2, .int (nI hs.length)]) (L' := [pt w (.inr (8, [.ref a, .int (nI (v 1)), .int (nI (v 2)), .int (nI ((v 3) + 1)), .int (nI (v 4)), .int (nI (v 5)), .int (nI (v 6)), .int (nI (fr.getD (v 3) 0)), .int (nI (v 8)), .int (nI ((v 9) + 1)), .int (nI (v 10)), .ref c1, .ref c2, .int (nI hs.length)])), row a 256 fr, pt c1 (.inl (0, 64, .inl f1)), pt c2 (.inl (0, 64, .inl f2))]) rfl rfl dX10_finishByte_61 rfl fp_X10_51_8 (Or.inl rfl) (Nat.le_of_ble_eq_true rfl) rfl rfl rfl (fun h hL => ?_)
    refine e_aload_n 65 dX10_finishByte_64 rfl rfl ?_
    refine e_get 68 dX10_finishByte_65 rfl fl_X10_51_8 (stars_at _ 0 hL rfl) rfl ?_
    refine e_aload_n 69 dX10_finishByte_68 rfl rfl ?_
    refine e_get 72 dX10_finishByte_69 rfl fl_X10_14_8 (stars_at _ 0 hL rfl) rfl ?_
    obtain ⟨z72, y72⟩ := row_at _ 1 hL rfl
    refine e_get 75 dX10_finishByte_72 rfl fl_X10_40_4 y72 rfl ?_
    refine e_icmp_lt 88 78 dX10_finishByte_75 rfl rfl (fun c75 => ?_) (fun c75 => ?_)
    · have k75 := j_lt_t (a := ((v 3) + 1)) (b := fr.length) (by omega) (by omega) c75
      exact e_vret dX10_finishByte_88 rfl (by omega) (by omega) (⟨_, ⟨rfl, rfl⟩, by rw [fnB, if_neg (by omega), if_neg (by omega)]; exact wire_c _ (L := []) hL rfl hn hfg⟩)
    · have k75 := j_lt_f (a := ((v 3) + 1)) (b := fr.length) (by omega) (by omega) c75
      refine e_aload_n 79 dX10_finishByte_78 rfl rfl ?_
      refine e_iconst 80 (v := (nI 0)) dX10_finishByte_79 rfl (by decide) ?_
      refine p_put 83 hL 0 (fs' := [.ref a, .int (nI 0), .int (nI (v 2)), .int (nI ((v 3) + 1)), .int (nI (v 4)), .int (nI (v 5)), .int (nI (v 6)), .int (nI (fr.getD (v 3) 0)), .int (nI (v 8)), .int (nI ((v 9) + 1)), .int (nI (v 10)), .ref c1, .ref c2, .int (nI hs.length)]) (L' := [pt w (.inr (8, [.ref a, .int (nI 0), .int (nI (v 2)), .int (nI ((v 3) + 1)), .int (nI (v 4)), .int (nI (v 5)), .int (nI (v 6)), .int (nI (fr.getD (v 3) 0)), .int (nI (v 8)), .int (nI ((v 9) + 1)), .int (nI (v 10)), .ref c1, .ref c2, .int (nI hs.length)])), row a 256 fr, pt c1 (.inl (0, 64, .inl f1)), pt c2 (.inl (0, 64, .inl f2))]) rfl rfl dX10_finishByte_80 rfl fp_X10_20_8 (Or.inl rfl) (Nat.le_of_ble_eq_true rfl) rfl rfl rfl (fun h hL => ?_)
      refine e_aload_n 84 dX10_finishByte_83 rfl rfl ?_
      refine e_iconst 85 (v := (nI 0)) dX10_finishByte_84 rfl (by decide) ?_
      refine p_put 88 hL 0 (fs' := [.ref a, .int (nI 0), .int (nI 0), .int (nI ((v 3) + 1)), .int (nI (v 4)), .int (nI (v 5)), .int (nI (v 6)), .int (nI (fr.getD (v 3) 0)), .int (nI (v 8)), .int (nI ((v 9) + 1)), .int (nI (v 10)), .ref c1, .ref c2, .int (nI hs.length)]) (L' := [pt w (.inr (8, [.ref a, .int (nI 0), .int (nI 0), .int (nI ((v 3) + 1)), .int (nI (v 4)), .int (nI (v 5)), .int (nI (v 6)), .int (nI (fr.getD (v 3) 0)), .int (nI (v 8)), .int (nI ((v 9) + 1)), .int (nI (v 10)), .ref c1, .ref c2, .int (nI hs.length)])), row a 256 fr, pt c1 (.inl (0, 64, .inl f1)), pt c2 (.inl (0, 64, .inl f2))]) rfl rfl dX10_finishByte_85 rfl fp_X10_24_8 (Or.inl rfl) (Nat.le_of_ble_eq_true rfl) rfl rfl rfl (fun h hL => ?_)
      exact e_vret dX10_finishByte_88 rfl (by omega) (by omega) (⟨_, ⟨rfl, rfl⟩, by rw [fnB, if_pos (by omega), if_neg (by omega)]; exact wire_c _ (L := []) hL rfl hn hfg⟩)
  · have k8 := j_ge_f (a := (v 6)) (b := 256) (by omega) (by omega) c8
    refine e_aload_n 12 dX10_finishByte_11 rfl rfl ?_
    refine e_get 15 dX10_finishByte_12 rfl fl_X10_14_8 (stars_at _ 0 hL rfl) rfl ?_
    refine e_aload_n 16 dX10_finishByte_15 rfl rfl ?_
    refine e_get 19 dX10_finishByte_16 rfl fl_X10_51_8 (stars_at _ 0 hL rfl) rfl ?_
    refine p_callV 22 hL [1, 0, 2, 3] 4 rfl (by decide) (L1 := [row a 256 fr]) (L2 := [pt w (.inr (8, [.ref a, .int (nI (v 1)), .int (nI (v 2)), .int (nI (v 3)), .int (nI (v 4)), .int (nI (v 5)), .int (nI (v 6)), .int (nI (v 7)), .int (nI (v 8)), .int (nI (v 9)), .int (nI (v 10)), .ref c1, .ref c2, .int (nI hs.length)])), pt c1 (.inl (0, 64, .inl f1)), pt c2 (.inl (0, 64, .inl f2))]) rfl row_O 1 rfl dX10_finishByte_19 rfl cv_X10_85 (k_X4_at (by omega)) rfl rfl (Nat.le_of_ble_eq_true rfl) ⟨by decide, by omega, by omega⟩ (fun r1 L1 h q hL => ?_)
    obtain ⟨rfl, rfl⟩ := q
    have hL : stars [row a 256 fr, pt w (.inr (8, [.ref a, .int (nI (v 1)), .int (nI (v 2)), .int (nI (v 3)), .int (nI (v 4)), .int (nI (v 5)), .int (nI (v 6)), .int (nI (v 7)), .int (nI (v 8)), .int (nI (v 9)), .int (nI (v 10)), .ref c1, .ref c2, .int (nI hs.length)])), pt c1 (.inl (0, 64, .inl f1)), pt c2 (.inl (0, 64, .inl f2))] h := hL
    have hL : stars [pt w (.inr (8, [.ref a, .int (nI (v 1)), .int (nI (v 2)), .int (nI (v 3)), .int (nI (v 4)), .int (nI (v 5)), .int (nI (v 6)), .int (nI (v 7)), .int (nI (v 8)), .int (nI (v 9)), .int (nI (v 10)), .ref c1, .ref c2, .int (nI hs.length)])), row a 256 fr, pt c1 (.inl (0, 64, .inl f1)), pt c2 (.inl (0, 64, .inl f2))] h := stars_ixn hL 4 rfl [1, 0, 2, 3] (by decide) rfl
    refine e_aload_n 23 dX10_finishByte_22 rfl rfl ?_
    refine e_get 26 dX10_finishByte_23 rfl fl_X10_69_8 (stars_at _ 0 hL rfl) rfl ?_
    refine e_ixor 27 (v := (nI (fr.getD (v 3) 0 ^^^ v 6))) dX10_finishByte_26 rfl (nx_xor _ _) ?_
    refine e_goto 41 dX10_finishByte_27 rfl ?_
    refine p_put 44 hL 0 (fs' := [.ref a, .int (nI (v 1)), .int (nI (v 2)), .int (nI (v 3)), .int (nI (v 4)), .int (nI (v 5)), .int (nI (v 6)), .int (nI (fr.getD (v 3) 0 ^^^ v 6)), .int (nI (v 8)), .int (nI (v 9)), .int (nI (v 10)), .ref c1, .ref c2, .int (nI hs.length)]) (L' := [pt w (.inr (8, [.ref a, .int (nI (v 1)), .int (nI (v 2)), .int (nI (v 3)), .int (nI (v 4)), .int (nI (v 5)), .int (nI (v 6)), .int (nI (fr.getD (v 3) 0 ^^^ v 6)), .int (nI (v 8)), .int (nI (v 9)), .int (nI (v 10)), .ref c1, .ref c2, .int (nI hs.length)])), row a 256 fr, pt c1 (.inl (0, 64, .inl f1)), pt c2 (.inl (0, 64, .inl f2))]) rfl rfl dX10_finishByte_41 rfl fp_X10_88_8 (Or.inl rfl) (Nat.le_of_ble_eq_true rfl) rfl rfl rfl (fun h hL => ?_)
    refine e_aload_n 45 dX10_finishByte_44 rfl rfl ?_
    refine e_dup 46 dX10_finishByte_45 rfl rfl ?_
    refine e_get 49 dX10_finishByte_46 rfl fl_X10_91_8 (stars_at _ 0 hL rfl) rfl ?_
    refine e_iconst 50 (v := (nI 1)) dX10_finishByte_49 rfl (by decide) ?_
    refine e_iadd 51 (v := (nI ((v 9) + 1))) dX10_finishByte_50 rfl (nI_add (v 9) 1) ?_
    refine p_put 54 hL 0 (fs' := [.ref a, .int (nI (v 1)), .int (nI (v 2)), .int (nI (v 3)), .int (nI (v 4)), .int (nI (v 5)), .int (nI (v 6)), .int (nI (fr.getD (v 3) 0 ^^^ v 6)), .int (nI (v 8)), .int (nI ((v 9) + 1)), .int (nI (v 10)), .ref c1, .ref c2, .int (nI hs.length)]) (L' := [pt w (.inr (8, [.ref a, .int (nI (v 1)), .int (nI (v 2)), .int (nI (v 3)), .int (nI (v 4)), .int (nI (v 5)), .int (nI (v 6)), .int (nI (fr.getD (v 3) 0 ^^^ v 6)), .int (nI (v 8)), .int (nI ((v 9) + 1)), .int (nI (v 10)), .ref c1, .ref c2, .int (nI hs.length)])), row a 256 fr, pt c1 (.inl (0, 64, .inl f1)), pt c2 (.inl (0, 64, .inl f2))]) rfl rfl dX10_finishByte_51 rfl fp_X10_91_8 (Or.inl rfl) (Nat.le_of_ble_eq_true rfl) rfl rfl rfl (fun h hL => ?_)
    refine e_aload_n 55 dX10_finishByte_54 rfl rfl ?_
    refine e_dup 56 dX10_finishByte_55 rfl rfl ?_
    refine e_get 59 dX10_finishByte_56 rfl fl_X10_51_8 (stars_at _ 0 hL rfl) rfl ?_
    refine e_iconst 60 (v := (nI 1)) dX10_finishByte_59 rfl (by decide) ?_
    refine e_iadd 61 (v := (nI ((v 3) + 1))) dX10_finishByte_60 rfl (nI_add (v 3) 1) ?_
    refine p_put 64 hL 0 (fs' := [.ref a, .int (nI (v 1)), .int (nI (v 2)), .int (nI ((v 3) + 1)), .int (nI (v 4)), .int (nI (v 5)), .int (nI (v 6)), .int (nI (fr.getD (v 3) 0 ^^^ v 6)), .int (nI (v 8)), .int (nI ((v 9) + 1)), .int (nI (v 10)), .ref c1, .ref c2, .int (nI hs.length)]) (L' := [pt w (.inr (8, [.ref a, .int (nI (v 1)), .int (nI (v 2)), .int (nI ((v 3) + 1)), .int (nI (v 4)), .int (nI (v 5)), .int (nI (v 6)), .int (nI (fr.getD (v 3) 0 ^^^ v 6)), .int (nI (v 8)), .int (nI ((v 9) + 1)), .int (nI (v 10)), .ref c1, .ref c2, .int (nI hs.length)])), row a 256 fr, pt c1 (.inl (0, 64, .inl f1)), pt c2 (.inl (0, 64, .inl f2))]) rfl rfl dX10_finishByte_61 rfl fp_X10_51_8 (Or.inl rfl) (Nat.le_of_ble_eq_true rfl) rfl rfl rfl (fun h hL => ?_)
    refine e_aload_n 65 dX10_finishByte_64 rfl rfl ?_
    refine e_get 68 dX10_finishByte_65 rfl fl_X10_51_8 (stars_at _ 0 hL rfl) rfl ?_
    refine e_aload_n 69 dX10_finishByte_68 rfl rfl ?_
    refine e_get 72 dX10_finishByte_69 rfl fl_X10_14_8 (stars_at _ 0 hL rfl) rfl ?_
    obtain ⟨z72, y72⟩ := row_at _ 1 hL rfl
    refine e_get 75 dX10_finishByte_72 rfl fl_X10_40_4 y72 rfl ?_
    refine e_icmp_lt 88 78 dX10_finishByte_75 rfl rfl (fun c75 => ?_) (fun c75 => ?_)
    · have k75 := j_lt_t (a := ((v 3) + 1)) (b := fr.length) (by omega) (by omega) c75
      exact e_vret dX10_finishByte_88 rfl (by omega) (by omega) (⟨_, ⟨rfl, rfl⟩, by rw [fnB, if_neg (by omega), if_pos (by omega)]; exact wire_c _ (L := []) hL rfl hn hfg⟩)
    · have k75 := j_lt_f (a := ((v 3) + 1)) (b := fr.length) (by omega) (by omega) c75
      refine e_aload_n 79 dX10_finishByte_78 rfl rfl ?_
      refine e_iconst 80 (v := (nI 0)) dX10_finishByte_79 rfl (by decide) ?_
      refine p_put 83 hL 0 (fs' := [.ref a, .int (nI 0), .int (nI (v 2)), .int (nI ((v 3) + 1)), .int (nI (v 4)), .int (nI (v 5)), .int (nI (v 6)), .int (nI (fr.getD (v 3) 0 ^^^ v 6)), .int (nI (v 8)), .int (nI ((v 9) + 1)), .int (nI (v 10)), .ref c1, .ref c2, .int (nI hs.length)]) (L' := [pt w (.inr (8, [.ref a, .int (nI 0), .int (nI (v 2)), .int (nI ((v 3) + 1)), .int (nI (v 4)), .int (nI (v 5)), .int (nI (v 6)), .int (nI (fr.getD (v 3) 0 ^^^ v 6)), .int (nI (v 8)), .int (nI ((v 9) + 1)), .int (nI (v 10)), .ref c1, .ref c2, .int (nI hs.length)])), row a 256 fr, pt c1 (.inl (0, 64, .inl f1)), pt c2 (.inl (0, 64, .inl f2))]) rfl rfl dX10_finishByte_80 rfl fp_X10_20_8 (Or.inl rfl) (Nat.le_of_ble_eq_true rfl) rfl rfl rfl (fun h hL => ?_)
      refine e_aload_n 84 dX10_finishByte_83 rfl rfl ?_
      refine e_iconst 85 (v := (nI 0)) dX10_finishByte_84 rfl (by decide) ?_
      refine p_put 88 hL 0 (fs' := [.ref a, .int (nI 0), .int (nI 0), .int (nI ((v 3) + 1)), .int (nI (v 4)), .int (nI (v 5)), .int (nI (v 6)), .int (nI (fr.getD (v 3) 0 ^^^ v 6)), .int (nI (v 8)), .int (nI ((v 9) + 1)), .int (nI (v 10)), .ref c1, .ref c2, .int (nI hs.length)]) (L' := [pt w (.inr (8, [.ref a, .int (nI 0), .int (nI 0), .int (nI ((v 3) + 1)), .int (nI (v 4)), .int (nI (v 5)), .int (nI (v 6)), .int (nI (fr.getD (v 3) 0 ^^^ v 6)), .int (nI (v 8)), .int (nI ((v 9) + 1)), .int (nI (v 10)), .ref c1, .ref c2, .int (nI hs.length)])), row a 256 fr, pt c1 (.inl (0, 64, .inl f1)), pt c2 (.inl (0, 64, .inl f2))]) rfl rfl dX10_finishByte_85 rfl fp_X10_24_8 (Or.inl rfl) (Nat.le_of_ble_eq_true rfl) rfl rfl rfl (fun h hL => ?_)
      exact e_vret dX10_finishByte_88 rfl (by omega) (by omega) (⟨_, ⟨rfl, rfl⟩, by rw [fnB, if_pos (by omega), if_pos (by omega)]; exact wire_c _ (L := []) hL rfl hn hfg⟩)
def ad2V (u : Nat → Nat) (fr : List Nat) : Nat → Nat := if 0 < u 4 then upN u 4 (u 4 - 1) else if u 5 = 1 then fnB (upN u 5 (u 5 - 1)) fr else upN u 5 (u 5 - 1)
def ad2R (u : Nat → Nat) : Nat := if 0 < u 4 then 0 else if u 6 = 256 then 0 else if u 5 = 1 then 2 else 1
def adV (v : Nat → Nat) (fr : List Nat) (hs : List (Nat × Nat)) : Nat → Nat := if v 1 = 0 then upN v 2 (v 2 + 1) else ad2V (if v 5 = 0 then bgB v hs else v) fr
def adR (v : Nat → Nat) (hs : List (Nat × Nat)) : Nat := if v 1 = 0 then 0 else ad2R (if v 5 = 0 then bgB v hs else v)
def adL (v : Nat → Nat) (hs : List (Nat × Nat)) : List (Nat × Nat) := if v 1 = 0 then hs else if v 5 = 0 then tkL hs (v 8) else hs
theorem fnB_k {v : Nat → Nat} {fr : List Nat} {k : Nat} (h : k ≠ 1 ∧ k ≠ 2 ∧ k ≠ 3 ∧ k ≠ 7 ∧ k ≠ 9) : fnB v fr k = v k := by
  obtain ⟨h1, h2, h3, h7, h9⟩ := h
  unfold fnB
  split <;> simp only [upN, if_neg h1, if_neg h2, if_neg h3, if_neg h7, if_neg h9]
set_option maxRecDepth 20000 in
set_option maxHeartbeats 2000000 in
theorem l_X10_advance {w : Nat} {fr : List Nat} {u : Nat → Nat} {hs : List (Nat × Nat)} (h5 : 1 ≤ u 5 ∧ u 5 ≤ 4) (h4 : u 4 < 1000) (h3 : u 3 < 1000000) (h6 : u 6 < 1000) (h9 : u 9 < 1000000) (h : eH) (hL : stars [wire w fr u hs] h) : EE mX10_advance 3 64 0 0 (fun r h' => ∃ L', (r = some (.int (nI (ad2R u))) ∧ L' = [wire w fr (ad2V u fr) hs]) ∧ stars L' h') 30 [some (.ref w)] [] h 0 0 := by
  obtain ⟨a, c1, c2, f1, f2, hn, hfg, hL⟩ := wire_o hL
  refine e_aload_n 31 dX10_advance_30 rfl rfl ?_
  refine e_get 34 dX10_advance_31 rfl fl_X10_57_8 (stars_at _ 0 hL rfl) rfl ?_
  refine e_if_le 49 37 dX10_advance_34 rfl rfl (fun c34 => ?_) (fun c34 => ?_)
  · have k34 := j_le0_t (a := (u 4)) (by omega) c34
    refine e_aload_n 50 dX10_advance_49 rfl rfl ?_
    refine e_dup 51 dX10_advance_50 rfl rfl ?_
    refine e_get 54 dX10_advance_51 rfl fl_X10_54_8 (stars_at _ 0 hL rfl) rfl ?_
    refine e_iconst 55 (v := (nI 1)) dX10_advance_54 rfl (by decide) ?_
    refine e_isub 56 (v := (nI (u 5 - 1))) dX10_advance_55 rfl (pk_sub (by omega)) ?_
    refine p_put 59 hL 0 (fs' := [.ref a, .int (nI (u 1)), .int (nI (u 2)), .int (nI (u 3)), .int (nI (u 4)), .int (nI (u 5 - 1)), .int (nI (u 6)), .int (nI (u 7)), .int (nI (u 8)), .int (nI (u 9)), .int (nI (u 10)), .ref c1, .ref c2, .int (nI hs.length)]) (L' := [pt w (.inr (8, [.ref a, .int (nI (u 1)), .int (nI (u 2)), .int (nI (u 3)), .int (nI (u 4)), .int (nI (u 5 - 1)), .int (nI (u 6)), .int (nI (u 7)), .int (nI (u 8)), .int (nI (u 9)), .int (nI (u 10)), .ref c1, .ref c2, .int (nI hs.length)])), row a 256 fr, pt c1 (.inl (0, 64, .inl f1)), pt c2 (.inl (0, 64, .inl f2))]) rfl rfl dX10_advance_56 rfl fp_X10_54_8 (Or.inl rfl) (Nat.le_of_ble_eq_true rfl) rfl rfl rfl (fun h hL => ?_)
    refine e_aload_n 60 dX10_advance_59 rfl rfl ?_
    refine e_get 63 dX10_advance_60 rfl fl_X10_54_8 (stars_at _ 0 hL rfl) rfl ?_
    refine e_if_ne 70 66 dX10_advance_63 rfl rfl (fun c63 => ?_) (fun c63 => ?_)
    · have k63 := j_ne0_t (a := (u 5 - 1)) (by omega) c63
      refine e_aload_n 71 dX10_advance_70 rfl rfl ?_
      refine e_get 74 dX10_advance_71 rfl fl_X10_69_8 (stars_at _ 0 hL rfl) rfl ?_
      refine e_sipush 77 (v := (nI 256)) dX10_advance_74 rfl (by decide) ?_
      refine e_icmp_ne 82 80 dX10_advance_77 rfl rfl (fun c77 => ?_) (fun c77 => ?_)
      · have k77 := j_ne_t (a := (u 6)) (b := 256) (by omega) (by omega) c77
        refine e_aload_n 83 dX10_advance_82 rfl rfl ?_
        refine e_get 86 dX10_advance_83 rfl fl_X10_54_8 (stars_at _ 0 hL rfl) rfl ?_
        refine e_if_ne 93 89 dX10_advance_86 rfl rfl (fun c86 => ?_) (fun c86 => ?_)
        · have k86 := j_ne0_t (a := (u 5 - 1)) (by omega) c86
          refine e_iconst 94 (v := (nI 1)) dX10_advance_93 rfl (by decide) ?_
          exact e_iret dX10_advance_94 rfl (by omega) (by omega) (⟨_, ⟨(by rw [ad2R, if_neg (by omega), if_neg (by omega), if_neg (by omega)]), rfl⟩, by rw [ad2V, if_neg (by omega), if_neg (by omega)]; exact wire_c _ (L := []) hL rfl hn hfg⟩)
        · have k86 := j_ne0_f (a := (u 5 - 1)) (by omega) c86
          refine e_iconst 90 (v := (nI 2)) dX10_advance_89 rfl (by decide) ?_
          refine e_goto 94 dX10_advance_90 rfl ?_
          exact e_iret dX10_advance_94 rfl (by omega) (by omega) (⟨_, ⟨(by rw [ad2R, if_neg (by omega), if_neg (by omega), if_pos (by omega)]), rfl⟩, by rw [ad2V, if_neg (by omega), if_neg (by omega)]; exact wire_c _ (L := []) hL rfl hn hfg⟩)
      · have k77 := j_ne_f (a := (u 6)) (b := 256) (by omega) (by omega) c77
        refine e_iconst 81 (v := (nI 0)) dX10_advance_80 rfl (by decide) ?_
        exact e_iret dX10_advance_81 rfl (by omega) (by omega) (⟨_, ⟨(by rw [ad2R, if_neg (by omega), if_pos (by omega)]), rfl⟩, by rw [ad2V, if_neg (by omega), if_neg (by omega)]; exact wire_c _ (L := []) hL rfl hn hfg⟩)
    · have k63 := j_ne0_f (a := (u 5 - 1)) (by omega) c63
      refine e_aload_n 67 dX10_advance_66 rfl rfl ?_
      have hL := wire_c (upN u 5 (u 5 - 1)) (L := []) hL rfl hn hfg
      refine p_callV 70 hL [0] 1 rfl (by decide) (L1 := [wire w fr (upN u 5 (u 5 - 1)) hs]) (L2 := []) rfl wire_O 0 rfl dX10_advance_67 rfl cv_X10_66 (k_X10_finishByte h3 h6 h9) rfl rfl (Nat.le_of_ble_eq_true rfl) ⟨by decide, by omega, by omega⟩ (fun r1 L1 h q hL => ?_)
      obtain ⟨rfl, rfl⟩ := q
      have hL : stars [wire w fr (fnB (upN u 5 (u 5 - 1)) fr) hs] h := hL
      obtain ⟨a, c1, c2, f1, f2, hn, hfg, hL⟩ := wire_o hL
      have e6 : fnB (upN u 5 (u 5 - 1)) fr 6 = u 6 := fnB_k (by decide)
      have e5 : fnB (upN u 5 (u 5 - 1)) fr 5 = u 5 - 1 := fnB_k (by decide)
      refine e_aload_n 71 dX10_advance_70 rfl rfl ?_
      refine e_get 74 dX10_advance_71 rfl fl_X10_69_8 (stars_at _ 0 hL rfl) rfl ?_
      refine e_sipush 77 (v := (nI 256)) dX10_advance_74 rfl (by decide) ?_
      refine e_icmp_ne 82 80 dX10_advance_77 rfl rfl (fun c77 => ?_) (fun c77 => ?_)
      · have k77 := j_ne_t (a := (fnB (upN u 5 (u 5 - 1)) fr 6)) (b := 256) (by omega) (by omega) c77
        refine e_aload_n 83 dX10_advance_82 rfl rfl ?_
        refine e_get 86 dX10_advance_83 rfl fl_X10_54_8 (stars_at _ 0 hL rfl) rfl ?_
        refine e_if_ne 93 89 dX10_advance_86 rfl rfl (fun c86 => ?_) (fun c86 => ?_)
        · have k86 := j_ne0_t (a := (fnB (upN u 5 (u 5 - 1)) fr 5)) (by omega) c86
          refine e_iconst 94 (v := (nI 1)) dX10_advance_93 rfl (by decide) ?_
          exact e_iret dX10_advance_94 rfl (by omega) (by omega) (⟨_, ⟨(by rw [ad2R, if_neg (by omega), if_neg (by omega), if_neg (by omega)]), rfl⟩, by rw [ad2V, if_neg (by omega), if_pos (by omega)]; exact wire_c _ (L := []) hL rfl hn hfg⟩)
        · have k86 := j_ne0_f (a := (fnB (upN u 5 (u 5 - 1)) fr 5)) (by omega) c86
          refine e_iconst 90 (v := (nI 2)) dX10_advance_89 rfl (by decide) ?_
          refine e_goto 94 dX10_advance_90 rfl ?_
          exact e_iret dX10_advance_94 rfl (by omega) (by omega) (⟨_, ⟨(by rw [ad2R, if_neg (by omega), if_neg (by omega), if_pos (by omega)]), rfl⟩, by rw [ad2V, if_neg (by omega), if_pos (by omega)]; exact wire_c _ (L := []) hL rfl hn hfg⟩)
      · have k77 := j_ne_f (a := (fnB (upN u 5 (u 5 - 1)) fr 6)) (b := 256) (by omega) (by omega) c77
        refine e_iconst 81 (v := (nI 0)) dX10_advance_80 rfl (by decide) ?_
        exact e_iret dX10_advance_81 rfl (by omega) (by omega) (⟨_, ⟨(by rw [ad2R, if_neg (by omega), if_pos (by omega)]), rfl⟩, by rw [ad2V, if_neg (by omega), if_pos (by omega)]; exact wire_c _ (L := []) hL rfl hn hfg⟩)
  · have k34 := j_le0_f (a := (u 4)) (by omega) c34
    refine e_aload_n 38 dX10_advance_37 rfl rfl ?_
    refine e_dup 39 dX10_advance_38 rfl rfl ?_
    refine e_get 42 dX10_advance_39 rfl fl_X10_57_8 (stars_at _ 0 hL rfl) rfl ?_
    refine e_iconst 43 (v := (nI 1)) dX10_advance_42 rfl (by decide) ?_
    refine e_isub 44 (v := (nI (u 4 - 1))) dX10_advance_43 rfl (pk_sub (by omega)) ?_
    refine p_put 47 hL 0 (fs' := [.ref a, .int (nI (u 1)), .int (nI (u 2)), .int (nI (u 3)), .int (nI (u 4 - 1)), .int (nI (u 5)), .int (nI (u 6)), .int (nI (u 7)), .int (nI (u 8)), .int (nI (u 9)), .int (nI (u 10)), .ref c1, .ref c2, .int (nI hs.length)]) (L' := [pt w (.inr (8, [.ref a, .int (nI (u 1)), .int (nI (u 2)), .int (nI (u 3)), .int (nI (u 4 - 1)), .int (nI (u 5)), .int (nI (u 6)), .int (nI (u 7)), .int (nI (u 8)), .int (nI (u 9)), .int (nI (u 10)), .ref c1, .ref c2, .int (nI hs.length)])), row a 256 fr, pt c1 (.inl (0, 64, .inl f1)), pt c2 (.inl (0, 64, .inl f2))]) rfl rfl dX10_advance_44 rfl fp_X10_57_8 (Or.inl rfl) (Nat.le_of_ble_eq_true rfl) rfl rfl rfl (fun h hL => ?_)
    refine e_iconst 48 (v := (nI 0)) dX10_advance_47 rfl (by decide) ?_
    exact e_iret dX10_advance_48 rfl (by omega) (by omega) (⟨_, ⟨(by rw [ad2R, if_pos (by omega)]), rfl⟩, by rw [ad2V, if_pos (by omega)]; exact wire_c _ (L := []) hL rfl hn hfg⟩)
set_option maxRecDepth 20000 in
set_option maxHeartbeats 2000000 in
/-- advance() -/
theorem k_X10_advance {w : Nat} {fr : List Nat} {v : Nat → Nat} {hs : List (Nat × Nat)} (hb : ∀ e ∈ hs, e.1 < 1000000 ∧ e.2 < 1000) (h1 : v 1 < 1000) (h2 : v 2 < 1000000) (h5 : v 5 ≤ 4) (h4 : v 4 < 1000) (h3 : v 3 < 1000000) (h6 : v 6 < 1000) (h9 : v 9 < 1000000) (h8 : v 8 < 1000000) : CA mX10_advance [.ref w] [wire w fr v hs] (fun r L => r = some (.int (nI (adR v hs))) ∧ L = [wire w fr (adV v fr hs) (adL v hs)]) 3 64 0 0 := by
  refine CA.mk 0 (ls := [some (.ref w)]) rfl rfl (Nat.le_of_ble_eq_true rfl) rfl (fun h hL => ?_)
  obtain ⟨a, c1, c2, f1, f2, hn, hfg, hL⟩ := wire_o hL
  refine e_aload_n 1 dX10_advance_0 rfl rfl ?_
  refine e_get 4 dX10_advance_1 rfl fl_X10_20_8 (stars_at _ 0 hL rfl) rfl ?_
  refine e_if_ne 19 7 dX10_advance_4 rfl rfl (fun c4 => ?_) (fun c4 => ?_)
  · have k4 := j_ne0_t (a := (v 1)) (by omega) c4
    refine e_aload_n 20 dX10_advance_19 rfl rfl ?_
    refine e_get 23 dX10_advance_20 rfl fl_X10_54_8 (stars_at _ 0 hL rfl) rfl ?_
    refine e_if_ne 30 26 dX10_advance_23 rfl rfl (fun c23 => ?_) (fun c23 => ?_)
    · have k23 := j_ne0_t (a := (v 5)) (by omega) c23
      rw [adV, if_neg (by omega), if_neg (by omega), adR, if_neg (by omega), if_neg (by omega), adL, if_neg (by omega), if_neg (by omega)]
      exact l_X10_advance ⟨by omega, h5⟩ h4 h3 h6 h9 h (wire_c v (L := []) hL rfl hn hfg)
    · have k23 := j_ne0_f (a := (v 5)) (by omega) c23
      refine e_aload_n 27 dX10_advance_26 rfl rfl ?_
      have hL := wire_c v (L := []) hL rfl hn hfg
      refine p_callV 30 hL [0] 1 rfl (by decide) (L1 := [wire w fr v hs]) (L2 := []) rfl wire_O 0 rfl dX10_advance_27 rfl cv_X10_63 (k_X10_beginByte hb h8) rfl rfl (Nat.le_of_ble_eq_true rfl) ⟨by decide, by omega, by omega⟩ (fun r1 L1 h q hL => ?_)
      obtain ⟨rfl, rfl⟩ := q
      have hL : stars [wire w fr (bgB v hs) (tkL hs (v 8))] h := hL
      rw [adV, if_neg (by omega), if_pos (by omega), adR, if_neg (by omega), if_pos (by omega), adL, if_neg (by omega), if_pos (by omega)]
      have htx := tkX_lt (k := v 8) hb
      exact l_X10_advance (u := bgB v hs) ⟨by show 1 ≤ 4; decide, Nat.le_refl 4⟩ (show tkX hs (v 8) - 256 < 1000 by omega) h3 (show tkX hs (v 8) < 1000 from htx) h9 h hL
  · have k4 := j_ne0_f (a := (v 1)) (by omega) c4
    refine e_aload_n 8 dX10_advance_7 rfl rfl ?_
    refine e_dup 9 dX10_advance_8 rfl rfl ?_
    refine e_get 12 dX10_advance_9 rfl fl_X10_24_8 (stars_at _ 0 hL rfl) rfl ?_
    refine e_iconst 13 (v := (nI 1)) dX10_advance_12 rfl (by decide) ?_
    refine e_iadd 14 (v := (nI ((v 2) + 1))) dX10_advance_13 rfl (nI_add (v 2) 1) ?_
    refine p_put 17 hL 0 (fs' := [.ref a, .int (nI (v 1)), .int (nI ((v 2) + 1)), .int (nI (v 3)), .int (nI (v 4)), .int (nI (v 5)), .int (nI (v 6)), .int (nI (v 7)), .int (nI (v 8)), .int (nI (v 9)), .int (nI (v 10)), .ref c1, .ref c2, .int (nI hs.length)]) (L' := [pt w (.inr (8, [.ref a, .int (nI (v 1)), .int (nI ((v 2) + 1)), .int (nI (v 3)), .int (nI (v 4)), .int (nI (v 5)), .int (nI (v 6)), .int (nI (v 7)), .int (nI (v 8)), .int (nI (v 9)), .int (nI (v 10)), .ref c1, .ref c2, .int (nI hs.length)])), row a 256 fr, pt c1 (.inl (0, 64, .inl f1)), pt c2 (.inl (0, 64, .inl f2))]) rfl rfl dX10_advance_14 rfl fp_X10_24_8 (Or.inl rfl) (Nat.le_of_ble_eq_true rfl) rfl rfl rfl (fun h hL => ?_)
    refine e_iconst 18 (v := (nI 0)) dX10_advance_17 rfl (by decide) ?_
    exact e_iret dX10_advance_18 rfl (by omega) (by omega) (⟨_, ⟨by rw [adR, if_pos (by omega)], rfl⟩, by rw [adV, if_pos (by omega), adL, if_pos (by omega)]; exact wire_c _ (L := []) hL rfl hn hfg⟩)
theorem te_app {hs : List (Nat × Nat)} {f1 f2 : Nat → Int32} {k x : Nat} (h : ∀ i, i < hs.length → f1 i = nI (hs.getD i (0, 0)).1 ∧ f2 i = nI (hs.getD i (0, 0)).2) : ∀ j, j < hs.length + 1 → upd f1 hs.length (nI k) j = nI ((hs ++ [(k, x)]).getD j (0, 0)).1 ∧ upd f2 hs.length (nI x) j = nI ((hs ++ [(k, x)]).getD j (0, 0)).2 := by
  intro j hj
  by_cases e : j = hs.length
  · subst e
    rw [pk_us, pk_us]
    simp [List.getD]
  · have h2 : j < hs.length := by omega
    rw [pk_un e, pk_un e]
    have e1 : (hs ++ [(k, x)]).getD j (0, 0) = hs.getD j (0, 0) := by simp [List.getD, List.getElem?_append_left h2]
    rw [e1]
    exact h j h2
theorem te_set {hs : List (Nat × Nat)} {f1 f2 : Nat → Int32} {k x i : Nat} (hi : i < hs.length) (h : ∀ i, i < hs.length → f1 i = nI (hs.getD i (0, 0)).1 ∧ f2 i = nI (hs.getD i (0, 0)).2) : ∀ j, j < hs.length → upd f1 i (nI k) j = nI ((hs.set i (k, x)).getD j (0, 0)).1 ∧ upd f2 i (nI x) j = nI ((hs.set i (k, x)).getD j (0, 0)).2 := by
  intro j hj
  by_cases e : j = i
  · subst e
    rw [pk_us, pk_us]
    simp [List.getD, hi]
  · rw [pk_un e, pk_un e]
    have e1 : (hs.set i (k, x)).getD j (0, 0) = hs.getD j (0, 0) := by simp [List.getD, List.getElem?_set_ne (Ne.symm e)]
    rw [e1]
    exact h j hj
set_option maxRecDepth 20000 in
set_option maxHeartbeats 2000000 in
/-- tellHarm(k, x) -/
theorem k_X10_tellHarm {w : Nat} {fr : List Nat} {v : Nat → Nat} {hs : List (Nat × Nat)} (hb : ∀ e ∈ hs, e.1 < 1000000 ∧ e.2 < 1000) (h8 : v 8 < 1000000) {k x : Nat} (hk : k < 100000) : CA mX10_tellHarm [.ref w, .int (nI k), .int (nI x)] [wire w fr v hs] (fun r L => r = some (.int (bI (teB hs (v 8 + k)))) ∧ L = [wire w fr v (teL hs (v 8 + k) x)]) 1 22 0 0 := by
  refine CA.mk 1 (ls := [some (.ref w), some (.int (nI k)), some (.int (nI x)), none]) rfl rfl (Nat.le_of_ble_eq_true rfl) rfl (fun h hL => ?_)
  obtain ⟨a, c1, c2, f1, f2, hn, hfg, hL⟩ := wire_o hL
  refine e_aload_n 1 dX10_tellHarm_0 rfl rfl ?_
  refine e_aload_n 2 dX10_tellHarm_1 rfl rfl ?_
  refine e_get 5 dX10_tellHarm_2 rfl fl_X10_82_8 (stars_at _ 0 hL rfl) rfl ?_
  refine e_iload_n 6 dX10_tellHarm_5 rfl rfl ?_
  refine e_iadd 7 (v := (nI ((v 8) + k))) dX10_tellHarm_6 rfl (nI_add (v 8) k) ?_
  have hL := wire_c v (L := []) hL rfl hn hfg
  refine p_callV 10 hL [0] 1 rfl (by decide) (L1 := [wire w fr v hs]) (L2 := []) rfl wire_O 0 rfl dX10_tellHarm_7 rfl cv_X10_94 (k_X10_indexOfHarm hb (by omega)) rfl rfl (Nat.le_of_ble_eq_true rfl) ⟨by decide, by omega, by omega⟩ (fun r1 L1 h q hL => ?_)
  obtain ⟨rfl, rfl⟩ := q
  have hL : stars [wire w fr v hs] h := hL
  obtain ⟨a, c1, c2, f1, f2, hn, hfg, hL⟩ := wire_o hL
  cases hix : ixH hs (v 8 + k) with
  | none =>
    refine e_istore_n 11 (ls' := [some (.ref w), some (.int (nI k)), some (.int (nI x)), some (.int (-1))]) dX10_tellHarm_10 rfl (by decide) rfl ?_
    refine e_iload_n 12 dX10_tellHarm_11 rfl rfl ?_
    refine e_if_ge 41 15 dX10_tellHarm_12 rfl rfl (fun c12 => absurd c12 (by decide)) (fun c12 => ?_)
    refine e_aload_n 16 dX10_tellHarm_15 rfl rfl ?_
    refine e_get 19 dX10_tellHarm_16 rfl fl_X10_97_8 (stars_at _ 0 hL rfl) rfl ?_
    refine e_bipush 21 (v := (nI 64)) dX10_tellHarm_19 rfl (by decide) ?_
    refine e_icmp_lt 26 24 dX10_tellHarm_21 rfl rfl (fun c21 => ?_) (fun c21 => ?_)
    · have k21 := j_lt_t (a := hs.length) (b := 64) (by omega) (by omega) c21
      refine e_aload_n 27 dX10_tellHarm_26 rfl rfl ?_
      refine e_get 30 dX10_tellHarm_27 rfl fl_X10_97_8 (stars_at _ 0 hL rfl) rfl ?_
      refine e_istore_n 31 (ls' := [some (.ref w), some (.int (nI k)), some (.int (nI x)), some (.int (nI hs.length))]) dX10_tellHarm_30 rfl (by decide) rfl ?_
      refine e_aload_n 32 dX10_tellHarm_31 rfl rfl ?_
      refine e_dup 33 dX10_tellHarm_32 rfl rfl ?_
      refine e_get 36 dX10_tellHarm_33 rfl fl_X10_97_8 (stars_at _ 0 hL rfl) rfl ?_
      refine e_iconst 37 (v := (nI 1)) dX10_tellHarm_36 rfl (by decide) ?_
      refine e_iadd 38 (v := (nI (hs.length + 1))) dX10_tellHarm_37 rfl (nI_add hs.length 1) ?_
      refine p_put 41 hL 0 (fs' := [.ref a, .int (nI (v 1)), .int (nI (v 2)), .int (nI (v 3)), .int (nI (v 4)), .int (nI (v 5)), .int (nI (v 6)), .int (nI (v 7)), .int (nI (v 8)), .int (nI (v 9)), .int (nI (v 10)), .ref c1, .ref c2, .int (nI (hs.length + 1))]) (L' := [pt w (.inr (8, [.ref a, .int (nI (v 1)), .int (nI (v 2)), .int (nI (v 3)), .int (nI (v 4)), .int (nI (v 5)), .int (nI (v 6)), .int (nI (v 7)), .int (nI (v 8)), .int (nI (v 9)), .int (nI (v 10)), .ref c1, .ref c2, .int (nI (hs.length + 1))])), row a 256 fr, pt c1 (.inl (0, 64, .inl f1)), pt c2 (.inl (0, 64, .inl f2))]) rfl rfl dX10_tellHarm_38 rfl fp_X10_97_8 (Or.inl rfl) (Nat.le_of_ble_eq_true rfl) rfl rfl rfl (fun h hL => ?_)
      refine e_aload_n 42 dX10_tellHarm_41 rfl rfl ?_
      refine e_get 45 dX10_tellHarm_42 rfl fl_X10_27_8 (stars_at _ 0 hL rfl) rfl ?_
      refine e_iload_n 46 dX10_tellHarm_45 rfl rfl ?_
      refine e_aload_n 47 dX10_tellHarm_46 rfl rfl ?_
      refine e_get 50 dX10_tellHarm_47 rfl fl_X10_82_8 (stars_at _ 0 hL rfl) rfl ?_
      refine e_iload_n 51 dX10_tellHarm_50 rfl rfl ?_
      refine e_iadd 52 (v := (nI ((v 8) + k))) dX10_tellHarm_51 rfl (nI_add (v 8) k) ?_
      refine p_iast 53 hL 2 (k := hs.length) (L' := [pt w (.inr (8, [.ref a, .int (nI (v 1)), .int (nI (v 2)), .int (nI (v 3)), .int (nI (v 4)), .int (nI (v 5)), .int (nI (v 6)), .int (nI (v 7)), .int (nI (v 8)), .int (nI (v 9)), .int (nI (v 10)), .ref c1, .ref c2, .int (nI (hs.length + 1))])), row a 256 fr, pt c1 (.inl (0, 64, .inl (upd f1 hs.length (nI ((v 8) + k))))), pt c2 (.inl (0, 64, .inl f2))]) rfl rfl dX10_tellHarm_52 rfl (vp_in_nI (by omega) (by omega)) (nI_clamp (by omega)) (fun h hL => ?_)
      refine e_aload_n 54 dX10_tellHarm_53 rfl rfl ?_
      refine e_get 57 dX10_tellHarm_54 rfl fl_X10_31_8 (stars_at _ 0 hL rfl) rfl ?_
      refine e_iload_n 58 dX10_tellHarm_57 rfl rfl ?_
      refine e_iload_n 59 dX10_tellHarm_58 rfl rfl ?_
      refine p_iast 60 hL 3 (k := hs.length) (L' := [pt w (.inr (8, [.ref a, .int (nI (v 1)), .int (nI (v 2)), .int (nI (v 3)), .int (nI (v 4)), .int (nI (v 5)), .int (nI (v 6)), .int (nI (v 7)), .int (nI (v 8)), .int (nI (v 9)), .int (nI (v 10)), .ref c1, .ref c2, .int (nI (hs.length + 1))])), row a 256 fr, pt c1 (.inl (0, 64, .inl (upd f1 hs.length (nI ((v 8) + k))))), pt c2 (.inl (0, 64, .inl (upd f2 hs.length (nI x))))]) rfl rfl dX10_tellHarm_59 rfl (vp_in_nI (by omega) (by omega)) (nI_clamp (by omega)) (fun h hL => ?_)
      refine e_iconst 61 (v := (nI 1)) dX10_tellHarm_60 rfl (by decide) ?_
      exact e_zret dX10_tellHarm_61 rfl (Or.inr (by decide)) (by omega) (by omega) (⟨_, ⟨by simp only [teB, hix]; rw [show decide (hs.length < 64) = true by (try simp only [Bool.and_eq_true, Bool.or_eq_true, Bool.not_eq_true', Bool.and_eq_false_iff, Bool.or_eq_false_iff, Bool.not_eq_false', decide_eq_true_eq, decide_eq_false_iff_not, Bool.false_or, Bool.true_or, Bool.or_false, Bool.or_true, Bool.not_false, Bool.not_true, Bool.true_and, Bool.false_and, Bool.and_true, Bool.and_false, reduceCtorEq]) <;> (try omega)]; rfl, rfl⟩, by simp only [teL, hix]; rw [if_pos (by omega)]; exact wire_c v (L := []) hL (by rw [List.length_append]; rfl) (by omega) (te_app hfg)⟩)
    · have k21 := j_lt_f (a := hs.length) (b := 64) (by omega) (by omega) c21
      refine e_iconst 25 (v := (nI 0)) dX10_tellHarm_24 rfl (by decide) ?_
      exact e_zret dX10_tellHarm_25 rfl (Or.inl (by decide)) (by omega) (by omega) (⟨_, ⟨by simp only [teB, hix]; rw [show decide (hs.length < 64) = false by (try simp only [Bool.and_eq_true, Bool.or_eq_true, Bool.not_eq_true', Bool.and_eq_false_iff, Bool.or_eq_false_iff, Bool.not_eq_false', decide_eq_true_eq, decide_eq_false_iff_not, Bool.false_or, Bool.true_or, Bool.or_false, Bool.or_true, Bool.not_false, Bool.not_true, Bool.true_and, Bool.false_and, Bool.and_true, Bool.and_false, reduceCtorEq]) <;> (try omega)]; rfl, rfl⟩, by simp only [teL, hix]; rw [if_neg (by omega)]; exact wire_c v (L := []) hL rfl hn hfg⟩)
  | some i =>
    have hil := ixH_lt hix
    have hbi := hb_at hb hil
    refine e_istore_n 11 (ls' := [some (.ref w), some (.int (nI k)), some (.int (nI x)), some (.int (nI i))]) dX10_tellHarm_10 rfl (by decide) rfl ?_
    refine e_iload_n 12 dX10_tellHarm_11 rfl rfl ?_
    refine e_if_ge 41 15 dX10_tellHarm_12 rfl rfl (fun c12 => ?_) (fun c12 => absurd c12 (fun z => z (nI_pos' (by omega))))
    refine e_aload_n 42 dX10_tellHarm_41 rfl rfl ?_
    refine e_get 45 dX10_tellHarm_42 rfl fl_X10_27_8 (stars_at _ 0 hL rfl) rfl ?_
    refine e_iload_n 46 dX10_tellHarm_45 rfl rfl ?_
    refine e_aload_n 47 dX10_tellHarm_46 rfl rfl ?_
    refine e_get 50 dX10_tellHarm_47 rfl fl_X10_82_8 (stars_at _ 0 hL rfl) rfl ?_
    refine e_iload_n 51 dX10_tellHarm_50 rfl rfl ?_
    refine e_iadd 52 (v := (nI ((v 8) + k))) dX10_tellHarm_51 rfl (nI_add (v 8) k) ?_
    refine p_iast 53 hL 2 (k := i) (L' := [pt w (.inr (8, [.ref a, .int (nI (v 1)), .int (nI (v 2)), .int (nI (v 3)), .int (nI (v 4)), .int (nI (v 5)), .int (nI (v 6)), .int (nI (v 7)), .int (nI (v 8)), .int (nI (v 9)), .int (nI (v 10)), .ref c1, .ref c2, .int (nI hs.length)])), row a 256 fr, pt c1 (.inl (0, 64, .inl (upd f1 i (nI ((v 8) + k))))), pt c2 (.inl (0, 64, .inl f2))]) rfl rfl dX10_tellHarm_52 rfl (vp_in_nI (by omega) (by omega)) (nI_clamp (by omega)) (fun h hL => ?_)
    refine e_aload_n 54 dX10_tellHarm_53 rfl rfl ?_
    refine e_get 57 dX10_tellHarm_54 rfl fl_X10_31_8 (stars_at _ 0 hL rfl) rfl ?_
    refine e_iload_n 58 dX10_tellHarm_57 rfl rfl ?_
    refine e_iload_n 59 dX10_tellHarm_58 rfl rfl ?_
    refine p_iast 60 hL 3 (k := i) (L' := [pt w (.inr (8, [.ref a, .int (nI (v 1)), .int (nI (v 2)), .int (nI (v 3)), .int (nI (v 4)), .int (nI (v 5)), .int (nI (v 6)), .int (nI (v 7)), .int (nI (v 8)), .int (nI (v 9)), .int (nI (v 10)), .ref c1, .ref c2, .int (nI hs.length)])), row a 256 fr, pt c1 (.inl (0, 64, .inl (upd f1 i (nI ((v 8) + k))))), pt c2 (.inl (0, 64, .inl (upd f2 i (nI x))))]) rfl rfl dX10_tellHarm_59 rfl (vp_in_nI (by omega) (by omega)) (nI_clamp (by omega)) (fun h hL => ?_)
    refine e_iconst 61 (v := (nI 1)) dX10_tellHarm_60 rfl (by decide) ?_
    exact e_zret dX10_tellHarm_61 rfl (Or.inr (by decide)) (by omega) (by omega) (⟨_, ⟨by simp only [teB, hix]; rfl, rfl⟩, by simp only [teL, hix]; exact wire_c v (L := []) hL List.length_set hn (te_set hil hfg)⟩)
theorem pf_self {p : List Nat} : pf p 0 p.length = p := by
  apply List.ext_getElem?
  intro i
  unfold pf
  by_cases h : i < p.length
  · simp [h, List.getD]
  · rw [List.getElem?_eq_none (by simp; omega), List.getElem?_eq_none (by omega)]
/-- a frame: address, PDU, SUM, the lower byte first -/
def mkF (ad : Nat) (p : List Nat) : List Nat := ad :: p ++ [crs (ad :: p) % 2 ^ 8] ++ [crs (ad :: p) / 2 ^ 8]
set_option maxRecDepth 20000 in
set_option maxHeartbeats 2000000 in
/-- startFrame(who, address, pdu) -/
theorem k_X10_startFrame {w : Nat} {fr : List Nat} {v : Nat → Nat} {hs : List (Nat × Nat)} {wh ad b cb : Nat} {p : List Nat} (hp : p.length ≤ 253) (hbf : ∀ x ∈ ad :: p, x < 65536) (h10 : v 10 < 1000000) : CA mX10_startFrame [.ref w, .int (nI wh), .int (nI ad), .ref b] [wire w fr v hs, row b cb p] (fun r L => r = none ∧ L = [wire w (mkF ad p) (upN (upN (upN (upN (upN v 1 wh) 3 0) 5 0) 4 0) 10 (v 10 + 1)) hs, row b cb p]) 1 25 0 0 := by
  refine CA.mk 1 (ls := [some (.ref w), some (.int (nI wh)), some (.int (nI ad)), some (.ref b), none]) rfl rfl (Nat.le_of_ble_eq_true rfl) rfl (fun h hL => ?_)
  obtain ⟨a, c1, c2, f1, f2, hn, hfg, hL⟩ := wire_o hL
  have hcr := crs_lt hbf
  refine e_aload_n 1 dX10_startFrame_0 rfl rfl ?_
  refine e_get 4 dX10_startFrame_1 rfl fl_X10_14_8 (stars_at _ 0 hL rfl) rfl ?_
  refine p_callV 7 hL [1, 0, 2, 3, 4] 5 rfl (by decide) (L1 := [row a 256 fr]) (L2 := [pt w (.inr (8, [.ref a, .int (nI (v 1)), .int (nI (v 2)), .int (nI (v 3)), .int (nI (v 4)), .int (nI (v 5)), .int (nI (v 6)), .int (nI (v 7)), .int (nI (v 8)), .int (nI (v 9)), .int (nI (v 10)), .ref c1, .ref c2, .int (nI hs.length)])), pt c1 (.inl (0, 64, .inl f1)), pt c2 (.inl (0, 64, .inl f2)), row b cb p]) rfl row_O 1 rfl dX10_startFrame_4 rfl cv_X10_34 k_X4_clear rfl rfl (Nat.le_of_ble_eq_true rfl) ⟨by decide, by omega, by omega⟩ (fun r1 L1 h q hL => ?_)
  obtain ⟨rfl, rfl⟩ := q
  have hL : stars [row a 256 ([]), pt w (.inr (8, [.ref a, .int (nI (v 1)), .int (nI (v 2)), .int (nI (v 3)), .int (nI (v 4)), .int (nI (v 5)), .int (nI (v 6)), .int (nI (v 7)), .int (nI (v 8)), .int (nI (v 9)), .int (nI (v 10)), .ref c1, .ref c2, .int (nI hs.length)])), pt c1 (.inl (0, 64, .inl f1)), pt c2 (.inl (0, 64, .inl f2)), row b cb p] h := hL
  have hL : stars [pt w (.inr (8, [.ref a, .int (nI (v 1)), .int (nI (v 2)), .int (nI (v 3)), .int (nI (v 4)), .int (nI (v 5)), .int (nI (v 6)), .int (nI (v 7)), .int (nI (v 8)), .int (nI (v 9)), .int (nI (v 10)), .ref c1, .ref c2, .int (nI hs.length)])), row a 256 ([]), pt c1 (.inl (0, 64, .inl f1)), pt c2 (.inl (0, 64, .inl f2)), row b cb p] h := stars_ixn hL 5 rfl [1, 0, 2, 3, 4] (by decide) rfl
  refine e_aload_n 8 dX10_startFrame_7 rfl rfl ?_
  refine e_get 11 dX10_startFrame_8 rfl fl_X10_14_8 (stars_at _ 0 hL rfl) rfl ?_
  refine e_iload_n 12 dX10_startFrame_11 rfl rfl ?_
  refine p_callV 15 hL [1, 0, 2, 3, 4] 5 rfl (by decide) (L1 := [row a 256 ([])]) (L2 := [pt w (.inr (8, [.ref a, .int (nI (v 1)), .int (nI (v 2)), .int (nI (v 3)), .int (nI (v 4)), .int (nI (v 5)), .int (nI (v 6)), .int (nI (v 7)), .int (nI (v 8)), .int (nI (v 9)), .int (nI (v 10)), .ref c1, .ref c2, .int (nI hs.length)])), pt c1 (.inl (0, 64, .inl f1)), pt c2 (.inl (0, 64, .inl f2)), row b cb p]) rfl row_O 1 rfl dX10_startFrame_12 rfl cv_X10_37 k_X4_add rfl rfl (Nat.le_of_ble_eq_true rfl) ⟨by decide, by omega, by omega⟩ (fun r1 L1 h q hL => ?_)
  obtain ⟨rfl, rfl⟩ := q
  have hL : stars [row a 256 (if ([]).length < 256 then [] ++ [ad] else []), pt w (.inr (8, [.ref a, .int (nI (v 1)), .int (nI (v 2)), .int (nI (v 3)), .int (nI (v 4)), .int (nI (v 5)), .int (nI (v 6)), .int (nI (v 7)), .int (nI (v 8)), .int (nI (v 9)), .int (nI (v 10)), .ref c1, .ref c2, .int (nI hs.length)])), pt c1 (.inl (0, 64, .inl f1)), pt c2 (.inl (0, 64, .inl f2)), row b cb p] h := hL
  rw [if_pos (by simp only [List.length_append, List.length_cons, List.length_nil]; omega)] at hL
  have hL : stars [row a 256 ([ad]), pt w (.inr (8, [.ref a, .int (nI (v 1)), .int (nI (v 2)), .int (nI (v 3)), .int (nI (v 4)), .int (nI (v 5)), .int (nI (v 6)), .int (nI (v 7)), .int (nI (v 8)), .int (nI (v 9)), .int (nI (v 10)), .ref c1, .ref c2, .int (nI hs.length)])), pt c1 (.inl (0, 64, .inl f1)), pt c2 (.inl (0, 64, .inl f2)), row b cb p] h := hL
  have hL : stars [pt w (.inr (8, [.ref a, .int (nI (v 1)), .int (nI (v 2)), .int (nI (v 3)), .int (nI (v 4)), .int (nI (v 5)), .int (nI (v 6)), .int (nI (v 7)), .int (nI (v 8)), .int (nI (v 9)), .int (nI (v 10)), .ref c1, .ref c2, .int (nI hs.length)])), row a 256 ([ad]), pt c1 (.inl (0, 64, .inl f1)), pt c2 (.inl (0, 64, .inl f2)), row b cb p] h := stars_ixn hL 5 rfl [1, 0, 2, 3, 4] (by decide) rfl
  refine e_aload_n 16 dX10_startFrame_15 rfl rfl ?_
  refine e_get 19 dX10_startFrame_16 rfl fl_X10_14_8 (stars_at _ 0 hL rfl) rfl ?_
  refine e_aload_n 20 dX10_startFrame_19 rfl rfl ?_
  refine e_iconst 21 (v := (nI 0)) dX10_startFrame_20 rfl (by decide) ?_
  refine e_aload_n 22 dX10_startFrame_21 rfl rfl ?_
  obtain ⟨z22, y22⟩ := row_at _ 4 hL rfl
  refine e_get 25 dX10_startFrame_22 rfl fl_X10_40_4 y22 rfl ?_
  refine p_callV 28 hL [1, 4, 0, 2, 3] 5 rfl (by decide) (L1 := [row a 256 ([ad]), row b cb p]) (L2 := [pt w (.inr (8, [.ref a, .int (nI (v 1)), .int (nI (v 2)), .int (nI (v 3)), .int (nI (v 4)), .int (nI (v 5)), .int (nI (v 6)), .int (nI (v 7)), .int (nI (v 8)), .int (nI (v 9)), .int (nI (v 10)), .ref c1, .ref c2, .int (nI hs.length)])), pt c1 (.inl (0, 64, .inl f1)), pt c2 (.inl (0, 64, .inl f2))]) rfl row_O 1 rfl dX10_startFrame_25 rfl cv_X10_43 (k_X4_addPart (by omega) (by omega)) rfl rfl (Nat.le_of_ble_eq_true rfl) ⟨by decide, by omega, by omega⟩ (fun r1 L1 h q hL => ?_)
  obtain ⟨rfl, rfl⟩ := q
  have hL : stars [row a 256 (([ad] ++ pf p 0 p.length).take 256), row b cb p, pt w (.inr (8, [.ref a, .int (nI (v 1)), .int (nI (v 2)), .int (nI (v 3)), .int (nI (v 4)), .int (nI (v 5)), .int (nI (v 6)), .int (nI (v 7)), .int (nI (v 8)), .int (nI (v 9)), .int (nI (v 10)), .ref c1, .ref c2, .int (nI hs.length)])), pt c1 (.inl (0, 64, .inl f1)), pt c2 (.inl (0, 64, .inl f2))] h := hL
  have hL : stars [pt w (.inr (8, [.ref a, .int (nI (v 1)), .int (nI (v 2)), .int (nI (v 3)), .int (nI (v 4)), .int (nI (v 5)), .int (nI (v 6)), .int (nI (v 7)), .int (nI (v 8)), .int (nI (v 9)), .int (nI (v 10)), .ref c1, .ref c2, .int (nI hs.length)])), row a 256 (([ad] ++ pf p 0 p.length).take 256), pt c1 (.inl (0, 64, .inl f1)), pt c2 (.inl (0, 64, .inl f2)), row b cb p] h := stars_ixn hL 5 rfl [2, 0, 3, 4, 1] (by decide) rfl
  rw [pf_self, List.take_of_length_le (show ([ad] ++ p).length ≤ 256 by simp only [List.length_append, List.length_cons, List.length_nil]; omega)] at hL
  have hL : stars [pt w (.inr (8, [.ref a, .int (nI (v 1)), .int (nI (v 2)), .int (nI (v 3)), .int (nI (v 4)), .int (nI (v 5)), .int (nI (v 6)), .int (nI (v 7)), .int (nI (v 8)), .int (nI (v 9)), .int (nI (v 10)), .ref c1, .ref c2, .int (nI hs.length)])), row a 256 (ad :: p), pt c1 (.inl (0, 64, .inl f1)), pt c2 (.inl (0, 64, .inl f2)), row b cb p] h := hL
  refine e_aload_n 29 dX10_startFrame_28 rfl rfl ?_
  refine e_get 32 dX10_startFrame_29 rfl fl_X10_14_8 (stars_at _ 0 hL rfl) rfl ?_
  refine e_aload_n 33 dX10_startFrame_32 rfl rfl ?_
  refine e_get 36 dX10_startFrame_33 rfl fl_X10_14_8 (stars_at _ 0 hL rfl) rfl ?_
  obtain ⟨z36, y36⟩ := row_at _ 1 hL rfl
  refine e_get 39 dX10_startFrame_36 rfl fl_X10_40_4 y36 rfl ?_
  refine p_callV 42 hL [1, 0, 2, 3, 4] 5 rfl (by decide) (L1 := [row a 256 (ad :: p)]) (L2 := [pt w (.inr (8, [.ref a, .int (nI (v 1)), .int (nI (v 2)), .int (nI (v 3)), .int (nI (v 4)), .int (nI (v 5)), .int (nI (v 6)), .int (nI (v 7)), .int (nI (v 8)), .int (nI (v 9)), .int (nI (v 10)), .ref c1, .ref c2, .int (nI hs.length)])), pt c1 (.inl (0, 64, .inl f1)), pt c2 (.inl (0, 64, .inl f2)), row b cb p]) rfl row_O 1 rfl dX10_startFrame_39 rfl cv_X10_47 (k_X4_sumOf hbf (by simp only [List.length_cons]; omega)) rfl rfl (Nat.le_of_ble_eq_true rfl) ⟨by decide, by omega, by omega⟩ (fun r1 L1 h q hL => ?_)
  obtain ⟨rfl, rfl⟩ := q
  have hL : stars [row a 256 (ad :: p), pt w (.inr (8, [.ref a, .int (nI (v 1)), .int (nI (v 2)), .int (nI (v 3)), .int (nI (v 4)), .int (nI (v 5)), .int (nI (v 6)), .int (nI (v 7)), .int (nI (v 8)), .int (nI (v 9)), .int (nI (v 10)), .ref c1, .ref c2, .int (nI hs.length)])), pt c1 (.inl (0, 64, .inl f1)), pt c2 (.inl (0, 64, .inl f2)), row b cb p] h := hL
  have hL : stars [pt w (.inr (8, [.ref a, .int (nI (v 1)), .int (nI (v 2)), .int (nI (v 3)), .int (nI (v 4)), .int (nI (v 5)), .int (nI (v 6)), .int (nI (v 7)), .int (nI (v 8)), .int (nI (v 9)), .int (nI (v 10)), .ref c1, .ref c2, .int (nI hs.length)])), row a 256 (ad :: p), pt c1 (.inl (0, 64, .inl f1)), pt c2 (.inl (0, 64, .inl f2)), row b cb p] h := stars_ixn hL 5 rfl [1, 0, 2, 3, 4] (by decide) rfl
  rw [show (ad :: p).take (ad :: p).length = ad :: p from List.take_length]
  refine e_istore 44 (ls' := [some (.ref w), some (.int (nI wh)), some (.int (nI ad)), some (.ref b), some (.int (nI (crs (ad :: p))))]) dX10_startFrame_42 rfl (by decide) rfl ?_
  refine e_aload_n 45 dX10_startFrame_44 rfl rfl ?_
  refine e_get 48 dX10_startFrame_45 rfl fl_X10_14_8 (stars_at _ 0 hL rfl) rfl ?_
  refine e_iload 50 dX10_startFrame_48 rfl rfl ?_
  refine e_sipush 53 (v := (nI 255)) dX10_startFrame_50 rfl (by decide) ?_
  refine e_iand 54 (v := (nI (crs (ad :: p) % 2 ^ 8))) dX10_startFrame_53 rfl (pk_andN (by omega) 8 (by decide)) ?_
  refine p_callV 57 hL [1, 0, 2, 3, 4] 5 rfl (by decide) (L1 := [row a 256 (ad :: p)]) (L2 := [pt w (.inr (8, [.ref a, .int (nI (v 1)), .int (nI (v 2)), .int (nI (v 3)), .int (nI (v 4)), .int (nI (v 5)), .int (nI (v 6)), .int (nI (v 7)), .int (nI (v 8)), .int (nI (v 9)), .int (nI (v 10)), .ref c1, .ref c2, .int (nI hs.length)])), pt c1 (.inl (0, 64, .inl f1)), pt c2 (.inl (0, 64, .inl f2)), row b cb p]) rfl row_O 1 rfl dX10_startFrame_54 rfl cv_X10_37 k_X4_add rfl rfl (Nat.le_of_ble_eq_true rfl) ⟨by decide, by omega, by omega⟩ (fun r1 L1 h q hL => ?_)
  obtain ⟨rfl, rfl⟩ := q
  have hL : stars [row a 256 (if (ad :: p).length < 256 then (ad :: p) ++ [(crs (ad :: p) % 2 ^ 8)] else (ad :: p)), pt w (.inr (8, [.ref a, .int (nI (v 1)), .int (nI (v 2)), .int (nI (v 3)), .int (nI (v 4)), .int (nI (v 5)), .int (nI (v 6)), .int (nI (v 7)), .int (nI (v 8)), .int (nI (v 9)), .int (nI (v 10)), .ref c1, .ref c2, .int (nI hs.length)])), pt c1 (.inl (0, 64, .inl f1)), pt c2 (.inl (0, 64, .inl f2)), row b cb p] h := hL
  rw [if_pos (by simp only [List.length_append, List.length_cons, List.length_nil]; omega)] at hL
  have hL : stars [row a 256 ((ad :: p) ++ [(crs (ad :: p) % 2 ^ 8)]), pt w (.inr (8, [.ref a, .int (nI (v 1)), .int (nI (v 2)), .int (nI (v 3)), .int (nI (v 4)), .int (nI (v 5)), .int (nI (v 6)), .int (nI (v 7)), .int (nI (v 8)), .int (nI (v 9)), .int (nI (v 10)), .ref c1, .ref c2, .int (nI hs.length)])), pt c1 (.inl (0, 64, .inl f1)), pt c2 (.inl (0, 64, .inl f2)), row b cb p] h := hL
  have hL : stars [pt w (.inr (8, [.ref a, .int (nI (v 1)), .int (nI (v 2)), .int (nI (v 3)), .int (nI (v 4)), .int (nI (v 5)), .int (nI (v 6)), .int (nI (v 7)), .int (nI (v 8)), .int (nI (v 9)), .int (nI (v 10)), .ref c1, .ref c2, .int (nI hs.length)])), row a 256 ((ad :: p) ++ [(crs (ad :: p) % 2 ^ 8)]), pt c1 (.inl (0, 64, .inl f1)), pt c2 (.inl (0, 64, .inl f2)), row b cb p] h := stars_ixn hL 5 rfl [1, 0, 2, 3, 4] (by decide) rfl
  refine e_aload_n 58 dX10_startFrame_57 rfl rfl ?_
  refine e_get 61 dX10_startFrame_58 rfl fl_X10_14_8 (stars_at _ 0 hL rfl) rfl ?_
  refine e_iload 63 dX10_startFrame_61 rfl rfl ?_
  refine e_bipush 65 (v := (nI 8)) dX10_startFrame_63 rfl (by decide) ?_
  refine e_ishr 66 (v := (nI (crs (ad :: p) / 2 ^ 8))) dX10_startFrame_65 rfl (pk_shrN (by omega) _ 8 (by decide)) ?_
  refine p_callV 69 hL [1, 0, 2, 3, 4] 5 rfl (by decide) (L1 := [row a 256 ((ad :: p) ++ [(crs (ad :: p) % 2 ^ 8)])]) (L2 := [pt w (.inr (8, [.ref a, .int (nI (v 1)), .int (nI (v 2)), .int (nI (v 3)), .int (nI (v 4)), .int (nI (v 5)), .int (nI (v 6)), .int (nI (v 7)), .int (nI (v 8)), .int (nI (v 9)), .int (nI (v 10)), .ref c1, .ref c2, .int (nI hs.length)])), pt c1 (.inl (0, 64, .inl f1)), pt c2 (.inl (0, 64, .inl f2)), row b cb p]) rfl row_O 1 rfl dX10_startFrame_66 rfl cv_X10_37 k_X4_add rfl rfl (Nat.le_of_ble_eq_true rfl) ⟨by decide, by omega, by omega⟩ (fun r1 L1 h q hL => ?_)
  obtain ⟨rfl, rfl⟩ := q
  have hL : stars [row a 256 (if ((ad :: p) ++ [(crs (ad :: p) % 2 ^ 8)]).length < 256 then ((ad :: p) ++ [(crs (ad :: p) % 2 ^ 8)]) ++ [(crs (ad :: p) / 2 ^ 8)] else ((ad :: p) ++ [(crs (ad :: p) % 2 ^ 8)])), pt w (.inr (8, [.ref a, .int (nI (v 1)), .int (nI (v 2)), .int (nI (v 3)), .int (nI (v 4)), .int (nI (v 5)), .int (nI (v 6)), .int (nI (v 7)), .int (nI (v 8)), .int (nI (v 9)), .int (nI (v 10)), .ref c1, .ref c2, .int (nI hs.length)])), pt c1 (.inl (0, 64, .inl f1)), pt c2 (.inl (0, 64, .inl f2)), row b cb p] h := hL
  rw [if_pos (by simp only [List.length_append, List.length_cons, List.length_nil]; omega)] at hL
  have hL : stars [row a 256 (((ad :: p) ++ [(crs (ad :: p) % 2 ^ 8)]) ++ [(crs (ad :: p) / 2 ^ 8)]), pt w (.inr (8, [.ref a, .int (nI (v 1)), .int (nI (v 2)), .int (nI (v 3)), .int (nI (v 4)), .int (nI (v 5)), .int (nI (v 6)), .int (nI (v 7)), .int (nI (v 8)), .int (nI (v 9)), .int (nI (v 10)), .ref c1, .ref c2, .int (nI hs.length)])), pt c1 (.inl (0, 64, .inl f1)), pt c2 (.inl (0, 64, .inl f2)), row b cb p] h := hL
  have hL : stars [pt w (.inr (8, [.ref a, .int (nI (v 1)), .int (nI (v 2)), .int (nI (v 3)), .int (nI (v 4)), .int (nI (v 5)), .int (nI (v 6)), .int (nI (v 7)), .int (nI (v 8)), .int (nI (v 9)), .int (nI (v 10)), .ref c1, .ref c2, .int (nI hs.length)])), row a 256 (((ad :: p) ++ [(crs (ad :: p) % 2 ^ 8)]) ++ [(crs (ad :: p) / 2 ^ 8)]), pt c1 (.inl (0, 64, .inl f1)), pt c2 (.inl (0, 64, .inl f2)), row b cb p] h := stars_ixn hL 5 rfl [1, 0, 2, 3, 4] (by decide) rfl
  refine e_aload_n 70 dX10_startFrame_69 rfl rfl ?_
  refine e_iload_n 71 dX10_startFrame_70 rfl rfl ?_
  refine p_put 74 hL 0 (fs' := [.ref a, .int (nI wh), .int (nI (v 2)), .int (nI (v 3)), .int (nI (v 4)), .int (nI (v 5)), .int (nI (v 6)), .int (nI (v 7)), .int (nI (v 8)), .int (nI (v 9)), .int (nI (v 10)), .ref c1, .ref c2, .int (nI hs.length)]) (L' := [pt w (.inr (8, [.ref a, .int (nI wh), .int (nI (v 2)), .int (nI (v 3)), .int (nI (v 4)), .int (nI (v 5)), .int (nI (v 6)), .int (nI (v 7)), .int (nI (v 8)), .int (nI (v 9)), .int (nI (v 10)), .ref c1, .ref c2, .int (nI hs.length)])), row a 256 (((ad :: p) ++ [(crs (ad :: p) % 2 ^ 8)]) ++ [(crs (ad :: p) / 2 ^ 8)]), pt c1 (.inl (0, 64, .inl f1)), pt c2 (.inl (0, 64, .inl f2)), row b cb p]) rfl rfl dX10_startFrame_71 rfl fp_X10_20_8 (Or.inl rfl) (Nat.le_of_ble_eq_true rfl) rfl rfl rfl (fun h hL => ?_)
  refine e_aload_n 75 dX10_startFrame_74 rfl rfl ?_
  refine e_iconst 76 (v := (nI 0)) dX10_startFrame_75 rfl (by decide) ?_
  refine p_put 79 hL 0 (fs' := [.ref a, .int (nI wh), .int (nI (v 2)), .int (nI 0), .int (nI (v 4)), .int (nI (v 5)), .int (nI (v 6)), .int (nI (v 7)), .int (nI (v 8)), .int (nI (v 9)), .int (nI (v 10)), .ref c1, .ref c2, .int (nI hs.length)]) (L' := [pt w (.inr (8, [.ref a, .int (nI wh), .int (nI (v 2)), .int (nI 0), .int (nI (v 4)), .int (nI (v 5)), .int (nI (v 6)), .int (nI (v 7)), .int (nI (v 8)), .int (nI (v 9)), .int (nI (v 10)), .ref c1, .ref c2, .int (nI hs.length)])), row a 256 (((ad :: p) ++ [(crs (ad :: p) % 2 ^ 8)]) ++ [(crs (ad :: p) / 2 ^ 8)]), pt c1 (.inl (0, 64, .inl f1)), pt c2 (.inl (0, 64, .inl f2)), row b cb p]) rfl rfl dX10_startFrame_76 rfl fp_X10_51_8 (Or.inl rfl) (Nat.le_of_ble_eq_true rfl) rfl rfl rfl (fun h hL => ?_)
  refine e_aload_n 80 dX10_startFrame_79 rfl rfl ?_
  refine e_iconst 81 (v := (nI 0)) dX10_startFrame_80 rfl (by decide) ?_
  refine p_put 84 hL 0 (fs' := [.ref a, .int (nI wh), .int (nI (v 2)), .int (nI 0), .int (nI (v 4)), .int (nI 0), .int (nI (v 6)), .int (nI (v 7)), .int (nI (v 8)), .int (nI (v 9)), .int (nI (v 10)), .ref c1, .ref c2, .int (nI hs.length)]) (L' := [pt w (.inr (8, [.ref a, .int (nI wh), .int (nI (v 2)), .int (nI 0), .int (nI (v 4)), .int (nI 0), .int (nI (v 6)), .int (nI (v 7)), .int (nI (v 8)), .int (nI (v 9)), .int (nI (v 10)), .ref c1, .ref c2, .int (nI hs.length)])), row a 256 (((ad :: p) ++ [(crs (ad :: p) % 2 ^ 8)]) ++ [(crs (ad :: p) / 2 ^ 8)]), pt c1 (.inl (0, 64, .inl f1)), pt c2 (.inl (0, 64, .inl f2)), row b cb p]) rfl rfl dX10_startFrame_81 rfl fp_X10_54_8 (Or.inl rfl) (Nat.le_of_ble_eq_true rfl) rfl rfl rfl (fun h hL => ?_)
  refine e_aload_n 85 dX10_startFrame_84 rfl rfl ?_
  refine e_iconst 86 (v := (nI 0)) dX10_startFrame_85 rfl (by decide) ?_
  refine p_put 89 hL 0 (fs' := [.ref a, .int (nI wh), .int (nI (v 2)), .int (nI 0), .int (nI 0), .int (nI 0), .int (nI (v 6)), .int (nI (v 7)), .int (nI (v 8)), .int (nI (v 9)), .int (nI (v 10)), .ref c1, .ref c2, .int (nI hs.length)]) (L' := [pt w (.inr (8, [.ref a, .int (nI wh), .int (nI (v 2)), .int (nI 0), .int (nI 0), .int (nI 0), .int (nI (v 6)), .int (nI (v 7)), .int (nI (v 8)), .int (nI (v 9)), .int (nI (v 10)), .ref c1, .ref c2, .int (nI hs.length)])), row a 256 (((ad :: p) ++ [(crs (ad :: p) % 2 ^ 8)]) ++ [(crs (ad :: p) / 2 ^ 8)]), pt c1 (.inl (0, 64, .inl f1)), pt c2 (.inl (0, 64, .inl f2)), row b cb p]) rfl rfl dX10_startFrame_86 rfl fp_X10_57_8 (Or.inl rfl) (Nat.le_of_ble_eq_true rfl) rfl rfl rfl (fun h hL => ?_)
  refine e_aload_n 90 dX10_startFrame_89 rfl rfl ?_
  refine e_dup 91 dX10_startFrame_90 rfl rfl ?_
  refine e_get 94 dX10_startFrame_91 rfl fl_X10_60_8 (stars_at _ 0 hL rfl) rfl ?_
  refine e_iconst 95 (v := (nI 1)) dX10_startFrame_94 rfl (by decide) ?_
  refine e_iadd 96 (v := (nI ((v 10) + 1))) dX10_startFrame_95 rfl (nI_add (v 10) 1) ?_
  refine p_put 99 hL 0 (fs' := [.ref a, .int (nI wh), .int (nI (v 2)), .int (nI 0), .int (nI 0), .int (nI 0), .int (nI (v 6)), .int (nI (v 7)), .int (nI (v 8)), .int (nI (v 9)), .int (nI ((v 10) + 1)), .ref c1, .ref c2, .int (nI hs.length)]) (L' := [pt w (.inr (8, [.ref a, .int (nI wh), .int (nI (v 2)), .int (nI 0), .int (nI 0), .int (nI 0), .int (nI (v 6)), .int (nI (v 7)), .int (nI (v 8)), .int (nI (v 9)), .int (nI ((v 10) + 1)), .ref c1, .ref c2, .int (nI hs.length)])), row a 256 (((ad :: p) ++ [(crs (ad :: p) % 2 ^ 8)]) ++ [(crs (ad :: p) / 2 ^ 8)]), pt c1 (.inl (0, 64, .inl f1)), pt c2 (.inl (0, 64, .inl f2)), row b cb p]) rfl rfl dX10_startFrame_96 rfl fp_X10_60_8 (Or.inl rfl) (Nat.le_of_ble_eq_true rfl) rfl rfl rfl (fun h hL => ?_)
  exact e_vret dX10_startFrame_99 rfl (by omega) (by omega) (⟨_, ⟨rfl, rfl⟩, wire_c (upN (upN (upN (upN (upN v 1 wh) 3 0) 5 0) 4 0) 10 (v 10 + 1)) (L := [row b cb p]) hL rfl hn hfg⟩)
