/-! Shelf: rows by keys. shB: the object and its two arrays; the rows are parts of their own -/
def shB (s cap rm : Nat) (K : List (Nat × Nat)) : sA := fun h => ∃ (ck cr : Nat) (f : Nat → Int32) (g : Nat → Option Nat), K.length ≤ cap ∧ cap < 100 ∧ rm < 65536 ∧ (∀ e ∈ K, e.1 < 65536) ∧ (∀ i, i < K.length → f i = nI (K.getD i (0, 0)).1 ∧ g i = some (K.getD i (0, 0)).2) ∧ stars [pt s (.inr (6, [.ref ck, .ref cr, .int (nI rm), .int (nI K.length)])), pt ck (.inl (0, cap, .inl f)), pt cr (.inl (3, cap, .inr (.inr (.inr (.inr g)))))] h
theorem shB_O {s cap rm : Nat} {K : List (Nat × Nat)} : isO (shB s cap rm K) s 6 := by
  rintro h ⟨ck, cr, f, g, -, -, -, -, -, k⟩
  exact ⟨_, stars_at _ 0 k rfl⟩
theorem shB_o {s cap rm : Nat} {K : List (Nat × Nat)} {L : List sA} {h : eH} (k : stars (shB s cap rm K :: L) h) : ∃ (ck cr : Nat) (f : Nat → Int32) (g : Nat → Option Nat), K.length ≤ cap ∧ cap < 100 ∧ rm < 65536 ∧ (∀ e ∈ K, e.1 < 65536) ∧ (∀ i, i < K.length → f i = nI (K.getD i (0, 0)).1 ∧ g i = some (K.getD i (0, 0)).2) ∧ stars (pt s (.inr (6, [.ref ck, .ref cr, .int (nI rm), .int (nI K.length)])) :: pt ck (.inl (0, cap, .inl f)) :: pt cr (.inl (3, cap, .inr (.inr (.inr (.inr g))))) :: L) h := by
  obtain ⟨h1, h2, hu, hj, ⟨ck, cr, f, g, p1, p2, p3, p4, p5, k⟩, q⟩ := k
  exact ⟨ck, cr, f, g, p1, p2, p3, p4, p5, (stars_app [_, _, _] L).mpr ⟨h1, h2, hu, hj, k, q⟩⟩
theorem shB_c {s cap rm ck cr n : Nat} {K : List (Nat × Nat)} {f : Nat → Int32} {g : Nat → Option Nat} {L : List sA} {h : eH} (k : stars (pt s (.inr (6, [.ref ck, .ref cr, .int (nI rm), .int (nI n)])) :: pt ck (.inl (0, cap, .inl f)) :: pt cr (.inl (3, cap, .inr (.inr (.inr (.inr g))))) :: L) h) (hl : K.length = n) (h1 : n ≤ cap) (h2 : cap < 100) (h3 : rm < 65536) (h4 : ∀ e ∈ K, e.1 < 65536) (h5 : ∀ i, i < n → f i = nI (K.getD i (0, 0)).1 ∧ g i = some (K.getD i (0, 0)).2) : stars (shB s cap rm K :: L) h := by
  subst hl
  exact stars_close (K := [_, _, _]) k (fun h' k' => ⟨ck, cr, f, g, h1, h2, h3, h4, h5, k'⟩)
theorem gp_lt {K : List (Nat × Nat)} {i : Nat} (h : ∀ e ∈ K, e.1 < 65536) (hi : i < K.length) : (K.getD i (0, 0)).1 < 65536 := by
  simp only [List.getD, List.getElem?_eq_getElem hi, Option.getD_some]
  exact h _ (List.getElem_mem hi)
/-- the row of a key -/
def lkS (K : List (Nat × Nat)) (x : Int32) : Option Nat := (K.find? (fun e => nI e.1 == x)).map (·.2)
theorem lkS_none {K : List (Nat × Nat)} {x : Int32} (h : ∀ j, j < K.length → nI (K.getD j (0, 0)).1 ≠ x) : lkS K x = none := by
  unfold lkS
  rw [Option.map_eq_none_iff, List.find?_eq_none]
  intro e he
  obtain ⟨j, hj, rfl⟩ := List.getElem_of_mem he
  have := h j hj
  simp only [List.getD, List.getElem?_eq_getElem hj, Option.getD_some] at this
  simpa using this
theorem lkS_some {K : List (Nat × Nat)} {x : Int32} {i : Nat} (hi : i < K.length) (h : ∀ j, j < i → nI (K.getD j (0, 0)).1 ≠ x) (hx : nI (K.getD i (0, 0)).1 = x) : lkS K x = some (K.getD i (0, 0)).2 := by
  unfold lkS
  have e : K.find? (fun e => nI e.1 == x) = some K[i] := by
    rw [List.find?_eq_some_iff_getElem]
    simp only [List.getD, List.getElem?_eq_getElem hi, Option.getD_some] at hx
    refine ⟨by simpa using hx, i, hi, rfl, fun j hj => ?_⟩
    have := h j hj
    have hjl : j < K.length := by omega
    simp only [List.getD, List.getElem?_eq_getElem hjl, Option.getD_some] at this
    simpa using this
  rw [e]
  simp [List.getD, hi]
/-- the least key of those from one to another -/
def lsK (a b : Nat) (m : Option Nat) (k : Nat) : Option Nat := if a ≤ k ∧ k ≤ b then (match m with
  | none => some k
  | some z => if k < z then some k else some z) else m
def gtK (m : Option Nat) (k : Nat) : Option Nat := match m with
  | none => some k
  | some z => if z < k then some k else some z
def oI : Option Nat → Int32
  | none => -1
  | some k => nI k
theorem fold_take {α : Type} {F : α → Nat → α} {z : α} {K : List (Nat × Nat)} {i : Nat} (hi : i < K.length) : ((K.take (i + 1)).map (·.1)).foldl F z = F (((K.take i).map (·.1)).foldl F z) (K.getD i (0, 0)).1 := by
  rw [List.take_succ_eq_append_getElem hi, List.map_append, List.foldl_append]
  simp [List.getD, hi]
set_option maxRecDepth 20000 in
set_option maxHeartbeats 2000000 in
/-- Shelf(m, rm) -/
theorem k_X8_init {s m rm : Nat} (h0 : 0 < m) (hm : m < 100) (hrm : rm < 65536) : CA mX8_init [.ref s, .int (nI m), .int (nI rm)] [pt s (.inr (6, [.null, .null, .int 0, .int 0]))] (fun x L => x = none ∧ L = [shB s m rm []]) 1 20 2 (m + m) := by
  refine CA.mk 0 (ls := [some (.ref s), some (.int (nI m)), some (.int (nI rm))]) rfl rfl (Nat.le_of_ble_eq_true rfl) rfl (fun h hL => ?_)
  refine e_aload_n 1 dX8_init_0 rfl rfl ?_
  refine e_objInit 4 dX8_init_1 rfl oi_X8_3 (by decide) (Nat.le_of_ble_eq_true rfl) ?_
  refine e_aload_n 5 dX8_init_4 rfl rfl ?_
  refine e_iload_n 6 dX8_init_5 rfl rfl ?_
  refine e_if_le 13 9 dX8_init_6 rfl rfl (fun c6 => absurd c6 (nI_nle (by omega) (by omega))) (fun c6 => ?_)
  refine e_iload_n 10 dX8_init_9 rfl rfl ?_
  refine e_goto 14 dX8_init_10 rfl ?_
  refine p_newI 16 hL (N := m) dX8_init_14 rfl (nI_pos (by omega)) (nI_clamp (by omega)) (by omega) (by omega) (by omega) (fun q14 h hL => ?_)
  refine p_put 19 hL 1 (fs' := [.ref q14, .null, .int 0, .int 0]) (L' := [pt q14 (.inl (0, m, .inl (fun _ => 0))), pt s (.inr (6, [.ref q14, .null, .int 0, .int 0]))]) rfl rfl dX8_init_16 rfl fp_X8_9_6 (Or.inr rfl) (Nat.le_of_ble_eq_true rfl) rfl rfl rfl (fun h hL => ?_)
  refine e_aload_n 20 dX8_init_19 rfl rfl ?_
  refine e_iload_n 21 dX8_init_20 rfl rfl ?_
  refine e_if_le 28 24 dX8_init_21 rfl rfl (fun c21 => absurd c21 (nI_nle (by omega) (by omega))) (fun c21 => ?_)
  refine e_iload_n 25 dX8_init_24 rfl rfl ?_
  refine e_goto 29 dX8_init_25 rfl ?_
  refine p_anew 32 hL (t := 3) (N := m) dX8_init_29 rfl cl_X8_15 ao_FieldLine_Row rfl (nI_pos (by omega)) (nI_clamp (by omega)) (by omega) (by omega) (by omega) (fun q29 h hL => ?_)
  refine p_put 35 hL 2 (fs' := [.ref q14, .ref q29, .int 0, .int 0]) (L' := [pt q29 (.inl (3, m, .inr (.inr (.inr (.inr (fun _ => none)))))), pt q14 (.inl (0, m, .inl (fun _ => 0))), pt s (.inr (6, [.ref q14, .ref q29, .int 0, .int 0]))]) rfl rfl dX8_init_32 rfl fp_X8_17_6 (Or.inr rfl) (Nat.le_of_ble_eq_true rfl) rfl rfl rfl (fun h hL => ?_)
  refine e_aload_n 36 dX8_init_35 rfl rfl ?_
  refine e_iload_n 37 dX8_init_36 rfl rfl ?_
  refine p_put 40 hL 2 (fs' := [.ref q14, .ref q29, .int (nI rm), .int 0]) (L' := [pt q29 (.inl (3, m, .inr (.inr (.inr (.inr (fun _ => none)))))), pt q14 (.inl (0, m, .inl (fun _ => 0))), pt s (.inr (6, [.ref q14, .ref q29, .int (nI rm), .int 0]))]) rfl rfl dX8_init_37 rfl fp_X8_21_6 (Or.inr rfl) (Nat.le_of_ble_eq_true rfl) rfl rfl rfl (fun h hL => ?_)
  refine e_aload_n 41 dX8_init_40 rfl rfl ?_
  refine e_iconst 42 (v := (nI 0)) dX8_init_41 rfl (by decide) ?_
  refine p_put 45 hL 2 (fs' := [.ref q14, .ref q29, .int (nI rm), .int (nI 0)]) (L' := [pt q29 (.inl (3, m, .inr (.inr (.inr (.inr (fun _ => none)))))), pt q14 (.inl (0, m, .inl (fun _ => 0))), pt s (.inr (6, [.ref q14, .ref q29, .int (nI rm), .int (nI 0)]))]) rfl rfl dX8_init_42 rfl fp_X8_25_6 (Or.inl rfl) (Nat.le_of_ble_eq_true rfl) rfl rfl rfl (fun h hL => ?_)
  exact e_vret dX8_init_45 rfl (by omega) (by omega) (⟨_, ⟨rfl, rfl⟩, shB_c (K := []) (L := []) (stars_ix hL [2, 1, 0] rfl rfl) rfl (Nat.zero_le _) hm hrm (fun e he => by simp at he) (fun i hi => absurd hi (Nat.not_lt_zero _))⟩)
set_option maxRecDepth 20000 in
set_option maxHeartbeats 2000000 in
theorem l_X8_find {s cap rm ck cr f0 l0 : Nat} {K : List (Nat × Nat)} {f : Nat → Int32} {g : Nat → Option Nat} (hn : K.length ≤ cap) (hcap : cap < 100) (hrm : rm < 65536) (hk6 : ∀ e ∈ K, e.1 < 65536) (hfg : ∀ i, i < K.length → f i = nI (K.getD i (0, 0)).1 ∧ g i = some (K.getD i (0, 0)).2) {x : Int32} : ∀ (n : Nat) (i : Nat) (h : eH), K.length - i < n → i ≤ K.length → (∀ j, j < i → nI (K.getD j (0, 0)).1 ≠ x) → stars [pt s (.inr (6, [.ref ck, .ref cr, .int (nI rm), .int (nI K.length)])), pt ck (.inl (0, cap, .inl f)), pt cr (.inl (3, cap, .inr (.inr (.inr (.inr g)))))] h → EE mX8_find f0 l0 0 0 (fun r h' => ∃ L', (r = some (va_rf (lkS K x)) ∧ L' = [shB s cap rm K]) ∧ stars L' h') 2 [some (.ref s), some (.int x), some (.int (nI i))] [] h 0 0 := by
  intro n
  induction n with
  | zero => intro i h hlt hi he hL; exact absurd hlt (by omega)
  | succ n ih =>
    intro i h hlt hi he hL
    refine e_iload_n 3 dX8_find_2 rfl rfl ?_
    refine e_aload_n 4 dX8_find_3 rfl rfl ?_
    refine e_get 7 dX8_find_4 rfl fl_X8_25_6 (stars_at _ 0 hL rfl) rfl ?_
    refine e_icmp_ge 33 10 dX8_find_7 rfl rfl (fun c7 => ?_) (fun c7 => ?_)
    · have k7 := j_ge_t (a := i) (b := K.length) (by omega) (by omega) c7
      refine e_null 34 dX8_find_33 rfl ?_
      exact e_aret dX8_find_34 rfl (Or.inl rfl) (by omega) (by omega) (⟨_, ⟨by rw [lkS_none (fun j hj => he j (by omega))]; rfl, rfl⟩, shB_c (L := []) hL rfl hn hcap hrm hk6 hfg⟩)
    · have k7 := j_ge_f (a := i) (b := K.length) (by omega) (by omega) c7
      refine e_aload_n 11 dX8_find_10 rfl rfl ?_
      refine e_get 14 dX8_find_11 rfl fl_X8_9_6 (stars_at _ 0 hL rfl) rfl ?_
      refine e_iload_n 15 dX8_find_14 rfl rfl ?_
      refine e_iald 16 (v := (nI (K.getD i (0, 0)).1)) dX8_find_15 rfl (stars_at _ 1 hL rfl) (vp_in_nI (by omega) (by omega)) ((congrArg f (nI_clamp (by omega))).trans (hfg i (by omega)).1) ?_
      refine e_iload_n 17 dX8_find_16 rfl rfl ?_
      refine e_icmp_ne 27 20 dX8_find_17 rfl rfl (fun c17 => ?_) (fun c17 => ?_)
      · refine e_iinc 30 (v := (nI (i + 1))) (ls' := [some (.ref s), some (.int x), some (.int (nI (i + 1)))]) dX8_find_27 rfl rfl (nI_add i 1) (by decide) rfl ?_
        refine e_goto 2 dX8_find_30 rfl ?_
        exact ih (i + 1) h (by omega) (by omega) (lt_s he c17) hL
      · refine e_aload_n 21 dX8_find_20 rfl rfl ?_
        refine e_get 24 dX8_find_21 rfl fl_X8_17_6 (stars_at _ 0 hL rfl) rfl ?_
        refine e_iload_n 25 dX8_find_24 rfl rfl ?_
        refine e_aald 26 (v := .ref (K.getD i (0, 0)).2) dX8_find_25 rfl (stars_at _ 2 hL rfl) rfl (Or.inl ⟨_, rfl⟩) (vp_in_nI (by omega) (by omega)) (by rw [nI_clamp (by omega), (hfg i (by omega)).2]; rfl) ?_
        exact e_aret dX8_find_26 rfl (Or.inr ⟨_, rfl⟩) (by omega) (by omega) (⟨_, ⟨by rw [lkS_some (by omega) he c17]; rfl, rfl⟩, shB_c (L := []) hL rfl hn hcap hrm hk6 hfg⟩)
set_option maxRecDepth 20000 in
set_option maxHeartbeats 2000000 in
/-- find(key) -/
theorem k_X8_find {s cap rm : Nat} {K : List (Nat × Nat)} {x : Int32} : CA mX8_find [.ref s, .int x] [shB s cap rm K] (fun r L => r = some (va_rf (lkS K x)) ∧ L = [shB s cap rm K]) 0 0 0 0 := by
  refine CA.mk 1 (ls := [some (.ref s), some (.int x), none]) rfl rfl (Nat.le_of_ble_eq_true rfl) rfl (fun h hL => ?_)
  obtain ⟨ck, cr, f, g, hn, hcap, hrm, hk6, hfg, hL⟩ := shB_o hL
  refine e_iconst 1 (v := (nI 0)) dX8_find_0 rfl (by decide) ?_
  refine e_istore_n 2 (ls' := [some (.ref s), some (.int x), some (.int (nI 0))]) dX8_find_1 rfl (by decide) rfl ?_
  exact l_X8_find hn hcap hrm hk6 hfg (K.length + 1) 0 h (by omega) (by omega) lt_0 hL
theorem oI_m1 {m : Option Nat} (hm : ∀ z, m = some z → z < 2 ^ 31) : oI m = -1 ↔ m = none := by
  cases m with
  | none => exact ⟨fun _ => rfl, fun _ => rfl⟩
  | some z =>
    refine ⟨fun h => ?_, fun h => by cases h⟩
    have := nI_pos' (hm z rfl)
    rw [show nI z = -1 from h] at this
    exact absurd this (by decide)
theorem lsK_in {a b : Nat} : ∀ (l : List Nat) (m : Option Nat), (∀ z, m = some z → z < 65536) → (∀ x ∈ l, x < 65536) → ∀ z, l.foldl (lsK a b) m = some z → z < 65536
  | [], m, hm, _, z, h => hm z h
  | x :: l, m, hm, hl, z, h => by
    refine lsK_in l (lsK a b m x) (fun y hy => ?_) (fun y hy => hl y (List.mem_cons_of_mem _ hy)) z h
    unfold lsK at hy
    split at hy
    · cases m with
      | none => cases hy; exact hl x List.mem_cons_self
      | some w =>
        simp only at hy
        split at hy
        · cases hy; exact hl x List.mem_cons_self
        · cases hy; exact hm _ rfl
    · exact hm y hy
theorem gtK_in : ∀ (l : List Nat) (m : Option Nat), (∀ z, m = some z → z < 65536) → (∀ x ∈ l, x < 65536) → ∀ z, l.foldl gtK m = some z → z < 65536
  | [], m, hm, _, z, h => hm z h
  | x :: l, m, hm, hl, z, h => by
    refine gtK_in l (gtK m x) (fun y hy => ?_) (fun y hy => hl y (List.mem_cons_of_mem _ hy)) z h
    unfold gtK at hy
    cases m with
    | none => cases hy; exact hl x List.mem_cons_self
    | some w =>
      simp only at hy
      split at hy
      · cases hy; exact hl x List.mem_cons_self
      · cases hy; exact hm _ rfl
theorem tk_lt {K : List (Nat × Nat)} {i : Nat} (h : ∀ e ∈ K, e.1 < 65536) : ∀ x ∈ (K.take i).map (·.1), x < 65536 := by
  intro x hx
  obtain ⟨e, he, rfl⟩ := List.mem_map.mp hx
  exact h e (List.mem_of_mem_take he)
theorem lsK_skip {a b k : Nat} {m : Option Nat} (h : k < a ∨ b < k) : lsK a b m k = m := by
  unfold lsK
  exact if_neg (fun z => by omega)
theorem lsK_none {a b k : Nat} {m : Option Nat} (h1 : a ≤ k) (h2 : k ≤ b) (hm : m = none) : lsK a b m k = some k := by
  subst hm
  exact if_pos ⟨h1, h2⟩
theorem lsK_less {a b k : Nat} {m : Option Nat} (h1 : a ≤ k) (h2 : k ≤ b) (hm : ∀ z, m = some z → k < z) : lsK a b m k = some k := by
  cases m with
  | none => exact if_pos ⟨h1, h2⟩
  | some z => exact (if_pos ⟨h1, h2⟩).trans (if_pos (hm z rfl))
theorem lsK_more {a b k : Nat} {m : Option Nat} (hm : ∃ z, m = some z ∧ z ≤ k) : lsK a b m k = m := by
  obtain ⟨z, rfl, h⟩ := hm
  unfold lsK
  split
  · exact if_neg (by omega)
  · rfl
set_option maxRecDepth 20000 in
set_option maxHeartbeats 2000000 in
theorem l_X8_leastKey {s cap rm ck cr f0 l0 : Nat} {K : List (Nat × Nat)} {f : Nat → Int32} {g : Nat → Option Nat} (hn : K.length ≤ cap) (hcap : cap < 100) (hrm : rm < 65536) (hk6 : ∀ e ∈ K, e.1 < 65536) (hfg : ∀ i, i < K.length → f i = nI (K.getD i (0, 0)).1 ∧ g i = some (K.getD i (0, 0)).2) {lo9 hi9 : Nat} (hlo : lo9 < 70000) (hhi : hi9 < 70000) : ∀ (n : Nat) (i : Nat) (h : eH), K.length - i < n → i ≤ K.length → stars [pt s (.inr (6, [.ref ck, .ref cr, .int (nI rm), .int (nI K.length)])), pt ck (.inl (0, cap, .inl f)), pt cr (.inl (3, cap, .inr (.inr (.inr (.inr g)))))] h → EE mX8_leastKey f0 l0 0 0 (fun r h' => ∃ L', (r = some (.int (oI ((K.map (·.1)).foldl (lsK lo9 hi9) none))) ∧ L' = [shB s cap rm K]) ∧ stars L' h') 5 [some (.ref s), some (.int (nI lo9)), some (.int (nI hi9)), some (.int (oI (((K.take i).map (·.1)).foldl (lsK lo9 hi9) none))), some (.int (nI i))] [] h 0 0 := by
  intro n
  induction n with
  | zero => intro i h hlt hi hL; exact absurd hlt (by omega)
  | succ n ih =>
    intro i h hlt hi hL
    have hkb : i < K.length → (K.getD i (0, 0)).1 < 65536 := gp_lt hk6
    refine e_iload 7 dX8_leastKey_5 rfl rfl ?_
    refine e_aload_n 8 dX8_leastKey_7 rfl rfl ?_
    refine e_get 11 dX8_leastKey_8 rfl fl_X8_25_6 (stars_at _ 0 hL rfl) rfl ?_
    refine e_icmp_ge 66 14 dX8_leastKey_11 rfl rfl (fun c11 => ?_) (fun c11 => ?_)
    · have k11 := j_ge_t (a := i) (b := K.length) (by omega) (by omega) c11
      refine e_iload_n 67 dX8_leastKey_66 rfl rfl ?_
      exact e_iret dX8_leastKey_67 rfl (by omega) (by omega) (⟨_, ⟨by rw [List.take_of_length_le (by omega)], rfl⟩, shB_c (L := []) hL rfl hn hcap hrm hk6 hfg⟩)
    · have k11 := j_ge_f (a := i) (b := K.length) (by omega) (by omega) c11
      refine e_aload_n 15 dX8_leastKey_14 rfl rfl ?_
      refine e_get 18 dX8_leastKey_15 rfl fl_X8_9_6 (stars_at _ 0 hL rfl) rfl ?_
      refine e_iload 20 dX8_leastKey_18 rfl rfl ?_
      refine e_iald 21 (v := (nI (K.getD i (0, 0)).1)) dX8_leastKey_20 rfl (stars_at _ 1 hL rfl) (vp_in_nI (by omega) (by omega)) ((congrArg f (nI_clamp (by omega))).trans (hfg i (by omega)).1) ?_
      refine e_iload_n 22 dX8_leastKey_21 rfl rfl ?_
      refine e_icmp_lt 60 25 dX8_leastKey_22 rfl rfl (fun c22 => ?_) (fun c22 => ?_)
      · have k22 := j_lt_t (a := (K.getD i (0, 0)).1) (b := lo9) (by omega) (by omega) c22
        refine e_iinc 63 (v := (nI (i + 1))) (ls' := [some (.ref s), some (.int (nI lo9)), some (.int (nI hi9)), some (.int (oI (((K.take i).map (·.1)).foldl (lsK lo9 hi9) none))), some (.int (nI (i + 1)))]) dX8_leastKey_60 rfl rfl (nI_add i 1) (by decide) rfl ?_
        refine e_goto 5 dX8_leastKey_63 rfl ?_
        have hst : ((K.take (i + 1)).map (·.1)).foldl (lsK lo9 hi9) none = _ := (fold_take (by omega)).trans (lsK_skip (Or.inl k22))
        refine e_wk [some (.ref s), some (.int (nI lo9)), some (.int (nI hi9)), some (.int (oI (((K.take (i + 1)).map (·.1)).foldl (lsK lo9 hi9) none))), some (.int (nI (i + 1)))] (by rw [hst]; exact ⟨rfl, rfl, rfl, rfl, rfl, trivial⟩) ?_
        exact ih (i + 1) h (by omega) (by omega) hL
      · have k22 := j_lt_f (a := (K.getD i (0, 0)).1) (b := lo9) (by omega) (by omega) c22
        refine e_aload_n 26 dX8_leastKey_25 rfl rfl ?_
        refine e_get 29 dX8_leastKey_26 rfl fl_X8_9_6 (stars_at _ 0 hL rfl) rfl ?_
        refine e_iload 31 dX8_leastKey_29 rfl rfl ?_
        refine e_iald 32 (v := (nI (K.getD i (0, 0)).1)) dX8_leastKey_31 rfl (stars_at _ 1 hL rfl) (vp_in_nI (by omega) (by omega)) ((congrArg f (nI_clamp (by omega))).trans (hfg i (by omega)).1) ?_
        refine e_iload_n 33 dX8_leastKey_32 rfl rfl ?_
        refine e_icmp_gt 60 36 dX8_leastKey_33 rfl rfl (fun c33 => ?_) (fun c33 => ?_)
        · have k33 := j_gt_t (a := (K.getD i (0, 0)).1) (b := hi9) (by omega) (by omega) c33
          refine e_iinc 63 (v := (nI (i + 1))) (ls' := [some (.ref s), some (.int (nI lo9)), some (.int (nI hi9)), some (.int (oI (((K.take i).map (·.1)).foldl (lsK lo9 hi9) none))), some (.int (nI (i + 1)))]) dX8_leastKey_60 rfl rfl (nI_add i 1) (by decide) rfl ?_
          refine e_goto 5 dX8_leastKey_63 rfl ?_
          have hst : ((K.take (i + 1)).map (·.1)).foldl (lsK lo9 hi9) none = _ := (fold_take (by omega)).trans (lsK_skip (Or.inr k33))
          refine e_wk [some (.ref s), some (.int (nI lo9)), some (.int (nI hi9)), some (.int (oI (((K.take (i + 1)).map (·.1)).foldl (lsK lo9 hi9) none))), some (.int (nI (i + 1)))] (by rw [hst]; exact ⟨rfl, rfl, rfl, rfl, rfl, trivial⟩) ?_
          exact ih (i + 1) h (by omega) (by omega) hL
        · have k33 := j_gt_f (a := (K.getD i (0, 0)).1) (b := hi9) (by omega) (by omega) c33
          refine e_iload_n 37 dX8_leastKey_36 rfl rfl ?_
          refine e_iconst 38 (v := (-1)) dX8_leastKey_37 rfl (by decide) ?_
          refine e_icmp_eq 52 41 dX8_leastKey_38 rfl rfl (fun c38 => ?_) (fun c38 => ?_)
          · refine e_aload_n 53 dX8_leastKey_52 rfl rfl ?_
            refine e_get 56 dX8_leastKey_53 rfl fl_X8_9_6 (stars_at _ 0 hL rfl) rfl ?_
            refine e_iload 58 dX8_leastKey_56 rfl rfl ?_
            refine e_iald 59 (v := (nI (K.getD i (0, 0)).1)) dX8_leastKey_58 rfl (stars_at _ 1 hL rfl) (vp_in_nI (by omega) (by omega)) ((congrArg f (nI_clamp (by omega))).trans (hfg i (by omega)).1) ?_
            refine e_istore_n 60 (ls' := [some (.ref s), some (.int (nI lo9)), some (.int (nI hi9)), some (.int (nI (K.getD i (0, 0)).1)), some (.int (nI i))]) dX8_leastKey_59 rfl (by decide) rfl ?_
            refine e_iinc 63 (v := (nI (i + 1))) (ls' := [some (.ref s), some (.int (nI lo9)), some (.int (nI hi9)), some (.int (nI (K.getD i (0, 0)).1)), some (.int (nI (i + 1)))]) dX8_leastKey_60 rfl rfl (nI_add i 1) (by decide) rfl ?_
            refine e_goto 5 dX8_leastKey_63 rfl ?_
            have hst : ((K.take (i + 1)).map (·.1)).foldl (lsK lo9 hi9) none = _ := (fold_take (by omega)).trans (lsK_none k22 k33 ((oI_m1 (fun z hz => by have := lsK_in _ _ (by simp) (tk_lt hk6) z hz; omega)).mp c38))
            refine e_wk [some (.ref s), some (.int (nI lo9)), some (.int (nI hi9)), some (.int (oI (((K.take (i + 1)).map (·.1)).foldl (lsK lo9 hi9) none))), some (.int (nI (i + 1)))] (by rw [hst]; exact ⟨rfl, rfl, rfl, rfl, rfl, trivial⟩) ?_
            exact ih (i + 1) h (by omega) (by omega) hL
          · refine e_aload_n 42 dX8_leastKey_41 rfl rfl ?_
            refine e_get 45 dX8_leastKey_42 rfl fl_X8_9_6 (stars_at _ 0 hL rfl) rfl ?_
            refine e_iload 47 dX8_leastKey_45 rfl rfl ?_
            refine e_iald 48 (v := (nI (K.getD i (0, 0)).1)) dX8_leastKey_47 rfl (stars_at _ 1 hL rfl) (vp_in_nI (by omega) (by omega)) ((congrArg f (nI_clamp (by omega))).trans (hfg i (by omega)).1) ?_
            refine e_iload_n 49 dX8_leastKey_48 rfl rfl ?_
            refine e_icmp_ge 60 52 dX8_leastKey_49 rfl rfl (fun c49 => ?_) (fun c49 => ?_)
            · refine e_iinc 63 (v := (nI (i + 1))) (ls' := [some (.ref s), some (.int (nI lo9)), some (.int (nI hi9)), some (.int (oI (((K.take i).map (·.1)).foldl (lsK lo9 hi9) none))), some (.int (nI (i + 1)))]) dX8_leastKey_60 rfl rfl (nI_add i 1) (by decide) rfl ?_
              refine e_goto 5 dX8_leastKey_63 rfl ?_
              have hst : ((K.take (i + 1)).map (·.1)).foldl (lsK lo9 hi9) none = _ := (fold_take (by omega)).trans (lsK_more (by cases hm : ((K.take i).map (·.1)).foldl (lsK lo9 hi9) none with | none => exact absurd ((oI_m1 (fun z hz => by have := lsK_in _ _ (by simp) (tk_lt hk6) z hz; omega)).mpr hm) c38 | some z => exact ⟨z, rfl, by have h1 := lsK_in _ _ (by simp) (tk_lt hk6) z hm; rw [hm] at c49; exact j_ge_t (a := (K.getD i (0, 0)).1) (b := z) (by omega) (by omega) c49⟩))
              refine e_wk [some (.ref s), some (.int (nI lo9)), some (.int (nI hi9)), some (.int (oI (((K.take (i + 1)).map (·.1)).foldl (lsK lo9 hi9) none))), some (.int (nI (i + 1)))] (by rw [hst]; exact ⟨rfl, rfl, rfl, rfl, rfl, trivial⟩) ?_
              exact ih (i + 1) h (by omega) (by omega) hL
            · refine e_aload_n 53 dX8_leastKey_52 rfl rfl ?_
              refine e_get 56 dX8_leastKey_53 rfl fl_X8_9_6 (stars_at _ 0 hL rfl) rfl ?_
              refine e_iload 58 dX8_leastKey_56 rfl rfl ?_
              refine e_iald 59 (v := (nI (K.getD i (0, 0)).1)) dX8_leastKey_58 rfl (stars_at _ 1 hL rfl) (vp_in_nI (by omega) (by omega)) ((congrArg f (nI_clamp (by omega))).trans (hfg i (by omega)).1) ?_
              refine e_istore_n 60 (ls' := [some (.ref s), some (.int (nI lo9)), some (.int (nI hi9)), some (.int (nI (K.getD i (0, 0)).1)), some (.int (nI i))]) dX8_leastKey_59 rfl (by decide) rfl ?_
              refine e_iinc 63 (v := (nI (i + 1))) (ls' := [some (.ref s), some (.int (nI lo9)), some (.int (nI hi9)), some (.int (nI (K.getD i (0, 0)).1)), some (.int (nI (i + 1)))]) dX8_leastKey_60 rfl rfl (nI_add i 1) (by decide) rfl ?_
              refine e_goto 5 dX8_leastKey_63 rfl ?_
              have hst : ((K.take (i + 1)).map (·.1)).foldl (lsK lo9 hi9) none = _ := (fold_take (by omega)).trans (lsK_less k22 k33 (fun z hz => by have h1 := lsK_in _ _ (by simp) (tk_lt hk6) z hz; rw [hz] at c49; exact j_ge_f (a := (K.getD i (0, 0)).1) (b := z) (by omega) (by omega) c49))
              refine e_wk [some (.ref s), some (.int (nI lo9)), some (.int (nI hi9)), some (.int (oI (((K.take (i + 1)).map (·.1)).foldl (lsK lo9 hi9) none))), some (.int (nI (i + 1)))] (by rw [hst]; exact ⟨rfl, rfl, rfl, rfl, rfl, trivial⟩) ?_
              exact ih (i + 1) h (by omega) (by omega) hL
set_option maxRecDepth 20000 in
set_option maxHeartbeats 2000000 in
/-- leastKey(from, to) -/
theorem k_X8_leastKey {s cap rm : Nat} {K : List (Nat × Nat)} {lo9 hi9 : Nat} (hlo : lo9 < 70000) (hhi : hi9 < 70000) : CA mX8_leastKey [.ref s, .int (nI lo9), .int (nI hi9)] [shB s cap rm K] (fun r L => r = some (.int (oI ((K.map (·.1)).foldl (lsK lo9 hi9) none))) ∧ L = [shB s cap rm K]) 0 0 0 0 := by
  refine CA.mk 2 (ls := [some (.ref s), some (.int (nI lo9)), some (.int (nI hi9)), none, none]) rfl rfl (Nat.le_of_ble_eq_true rfl) rfl (fun h hL => ?_)
  obtain ⟨ck, cr, f, g, hn, hcap, hrm, hk6, hfg, hL⟩ := shB_o hL
  refine e_iconst 1 (v := (-1)) dX8_leastKey_0 rfl (by decide) ?_
  refine e_istore_n 2 (ls' := [some (.ref s), some (.int (nI lo9)), some (.int (nI hi9)), some (.int (-1)), none]) dX8_leastKey_1 rfl (by decide) rfl ?_
  refine e_iconst 3 (v := (nI 0)) dX8_leastKey_2 rfl (by decide) ?_
  refine e_istore 5 (ls' := [some (.ref s), some (.int (nI lo9)), some (.int (nI hi9)), some (.int (-1)), some (.int (nI 0))]) dX8_leastKey_3 rfl (by decide) rfl ?_
  exact l_X8_leastKey hn hcap hrm hk6 hfg hlo hhi (K.length + 1) 0 h (by omega) (by omega) hL
theorem oI_le {m : Option Nat} {k : Nat} (hk : k < 65536) (hm : ∀ z, m = some z → z < 65536) : nI k ≤ oI m ↔ ∃ z, m = some z ∧ k ≤ z := by
  cases m with
  | none =>
    refine ⟨fun h => ?_, fun ⟨z, h, _⟩ => by cases h⟩
    have h2 : nI k ≤ -1 := h
    rw [Int32.le_iff_toInt_le, nI_toInt (by omega)] at h2
    have : (-1 : Int32).toInt = -1 := by decide
    omega
  | some z =>
    have hz := hm z rfl
    exact ⟨fun h => ⟨z, rfl, (nI_leI (by omega) (by omega)).mp h⟩, fun ⟨y, h, q⟩ => by cases h; exact (nI_leI (by omega) (by omega)).mpr q⟩
theorem p_aastO {M : MD} {fr lo mc ms : Nat} {Q : Option Value → eH → Prop} {pc ce sl : Nat} {ls : List (Option Value)} {st : List Value} {h : eH} (np : Nat) {L L' : List sA} (hL : stars L h) (i j : Nat) {a n t v ci k : Nat} {P : sA} {q0 : vw_C} {f : Nat → Option Nat} {ix : Int32} (hi : L[i]? = some (pt a (.inl (t, n, .inr (.inr (.inr (.inr f))))))) (hj : L[j]? = some P) (ho : isO P v ci) (hL' : L.set i (pt a (.inl (t, n, .inr (.inr (.inr (.inr (va_up f k (some v)))))))) = L') (hd : decode M.2.1 pc = .ok (.aastore, 1)) (hn : pc + 1 = np) (hc : vwCl[ci]? = some q0) (ht : atys[t]? = some (.object q0.1)) (hx : vp_in ix n) (hk : ix.toNatClampNeg = k) (kk : ∀ h' : eH, stars L' h' → EE M fr lo mc ms Q np ls st h' ce sl) : EE M fr lo mc ms Q pc ls (.ref v :: .int ix :: .ref a :: st) h ce sl := by
  subst hk
  obtain ⟨fs, hb⟩ := stars_isO L j hL hj ho
  exact e_aast np hd hn (stars_at L i hL hi) hc ht hb hx (kk _ (hL' ▸ stars_set L i hL hi))
theorem app_K {K : List (Nat × Nat)} {k q : Nat} {f : Nat → Int32} {g : Nat → Option Nat} (h : ∀ i, i < K.length → f i = nI (K.getD i (0, 0)).1 ∧ g i = some (K.getD i (0, 0)).2) : ∀ i, i < K.length + 1 → upd f K.length (nI k) i = nI ((K ++ [(k, q)]).getD i (0, 0)).1 ∧ va_up g K.length (some q) i = some ((K ++ [(k, q)]).getD i (0, 0)).2 := by
  intro i hi
  by_cases e : i = K.length
  · subst e
    rw [pk_us]
    simp [va_up, List.getD]
  · have h2 : i < K.length := by omega
    rw [pk_un e, (h i h2).1]
    simp only [va_up, if_neg e, (h i h2).2, List.getD, List.getElem?_append_left h2]
    refine ⟨?_, ?_⟩ <;> first | rfl | trivial
set_option maxRecDepth 20000 in
set_option maxHeartbeats 2000000 in
theorem l_X8_greatestKey {s cap rm ck cr f0 l0 : Nat} {K : List (Nat × Nat)} {f : Nat → Int32} {g : Nat → Option Nat} (hn : K.length ≤ cap) (hcap : cap < 100) (hrm : rm < 65536) (hk6 : ∀ e ∈ K, e.1 < 65536) (hfg : ∀ i, i < K.length → f i = nI (K.getD i (0, 0)).1 ∧ g i = some (K.getD i (0, 0)).2) : ∀ (n : Nat) (i : Nat) (h : eH), K.length - i < n → i ≤ K.length → stars [pt s (.inr (6, [.ref ck, .ref cr, .int (nI rm), .int (nI K.length)])), pt ck (.inl (0, cap, .inl f)), pt cr (.inl (3, cap, .inr (.inr (.inr (.inr g)))))] h → EE mX8_greatestKey f0 l0 0 0 (fun r h' => ∃ L', (r = some (.int (oI ((K.map (·.1)).foldl gtK none))) ∧ L' = [shB s cap rm K]) ∧ stars L' h') 4 [some (.ref s), some (.int (oI (((K.take i).map (·.1)).foldl gtK none))), some (.int (nI i))] [] h 0 0 := by
  intro n
  induction n with
  | zero => intro i h hlt hi hL; exact absurd hlt (by omega)
  | succ n ih =>
    intro i h hlt hi hL
    have hkb : i < K.length → (K.getD i (0, 0)).1 < 65536 := gp_lt hk6
    refine e_iload_n 5 dX8_greatestKey_4 rfl rfl ?_
    refine e_aload_n 6 dX8_greatestKey_5 rfl rfl ?_
    refine e_get 9 dX8_greatestKey_6 rfl fl_X8_25_6 (stars_at _ 0 hL rfl) rfl ?_
    refine e_icmp_ge 35 12 dX8_greatestKey_9 rfl rfl (fun c9 => ?_) (fun c9 => ?_)
    · have k9 := j_ge_t (a := i) (b := K.length) (by omega) (by omega) c9
      refine e_iload_n 36 dX8_greatestKey_35 rfl rfl ?_
      exact e_iret dX8_greatestKey_36 rfl (by omega) (by omega) (⟨_, ⟨by rw [List.take_of_length_le (by omega)], rfl⟩, shB_c (L := []) hL rfl hn hcap hrm hk6 hfg⟩)
    · have k9 := j_ge_f (a := i) (b := K.length) (by omega) (by omega) c9
      refine e_aload_n 13 dX8_greatestKey_12 rfl rfl ?_
      refine e_get 16 dX8_greatestKey_13 rfl fl_X8_9_6 (stars_at _ 0 hL rfl) rfl ?_
      refine e_iload_n 17 dX8_greatestKey_16 rfl rfl ?_
      refine e_iald 18 (v := (nI (K.getD i (0, 0)).1)) dX8_greatestKey_17 rfl (stars_at _ 1 hL rfl) (vp_in_nI (by omega) (by omega)) ((congrArg f (nI_clamp (by omega))).trans (hfg i (by omega)).1) ?_
      refine e_iload_n 19 dX8_greatestKey_18 rfl rfl ?_
      refine e_icmp_le 29 22 dX8_greatestKey_19 rfl rfl (fun c19 => ?_) (fun c19 => ?_)
      · refine e_iinc 32 (v := (nI (i + 1))) (ls' := [some (.ref s), some (.int (oI (((K.take i).map (·.1)).foldl gtK none))), some (.int (nI (i + 1)))]) dX8_greatestKey_29 rfl rfl (nI_add i 1) (by decide) rfl ?_
        refine e_goto 4 dX8_greatestKey_32 rfl ?_
        have hin := gtK_in ((K.take i).map (·.1)) none (by simp) (tk_lt hk6)
        have hst : ((K.take (i + 1)).map (·.1)).foldl gtK none = ((K.take i).map (·.1)).foldl gtK none := (fold_take (by omega)).trans (by obtain ⟨z, hz, hz2⟩ := (oI_le (hkb (by omega)) hin).mp c19; rw [hz]; exact if_neg (by omega))
        refine e_wk [some (.ref s), some (.int (oI (((K.take (i + 1)).map (·.1)).foldl gtK none))), some (.int (nI (i + 1)))] (by rw [hst]; exact ⟨rfl, rfl, rfl, trivial⟩) ?_
        exact ih (i + 1) h (by omega) (by omega) hL
      · refine e_aload_n 23 dX8_greatestKey_22 rfl rfl ?_
        refine e_get 26 dX8_greatestKey_23 rfl fl_X8_9_6 (stars_at _ 0 hL rfl) rfl ?_
        refine e_iload_n 27 dX8_greatestKey_26 rfl rfl ?_
        refine e_iald 28 (v := (nI (K.getD i (0, 0)).1)) dX8_greatestKey_27 rfl (stars_at _ 1 hL rfl) (vp_in_nI (by omega) (by omega)) ((congrArg f (nI_clamp (by omega))).trans (hfg i (by omega)).1) ?_
        refine e_istore_n 29 (ls' := [some (.ref s), some (.int (nI (K.getD i (0, 0)).1)), some (.int (nI i))]) dX8_greatestKey_28 rfl (by decide) rfl ?_
        refine e_iinc 32 (v := (nI (i + 1))) (ls' := [some (.ref s), some (.int (nI (K.getD i (0, 0)).1)), some (.int (nI (i + 1)))]) dX8_greatestKey_29 rfl rfl (nI_add i 1) (by decide) rfl ?_
        refine e_goto 4 dX8_greatestKey_32 rfl ?_
        have hin := gtK_in ((K.take i).map (·.1)) none (by simp) (tk_lt hk6)
        have hst : ((K.take (i + 1)).map (·.1)).foldl gtK none = some (K.getD i (0, 0)).1 := (fold_take (by omega)).trans (by have hx := fun z => c19 ((oI_le (hkb (by omega)) hin).mpr z); cases hm : ((K.take i).map (·.1)).foldl gtK none with | none => rfl | some z => exact if_pos (Nat.not_le.mp (fun q => hx ⟨z, hm, q⟩)))
        refine e_wk [some (.ref s), some (.int (oI (((K.take (i + 1)).map (·.1)).foldl gtK none))), some (.int (nI (i + 1)))] (by rw [hst]; exact ⟨rfl, rfl, rfl, trivial⟩) ?_
        exact ih (i + 1) h (by omega) (by omega) hL
set_option maxRecDepth 20000 in
set_option maxHeartbeats 2000000 in
/-- greatestKey() -/
theorem k_X8_greatestKey {s cap rm : Nat} {K : List (Nat × Nat)} : CA mX8_greatestKey [.ref s] [shB s cap rm K] (fun r L => r = some (.int (oI ((K.map (·.1)).foldl gtK none))) ∧ L = [shB s cap rm K]) 0 0 0 0 := by
  refine CA.mk 2 (ls := [some (.ref s), none, none]) rfl rfl (Nat.le_of_ble_eq_true rfl) rfl (fun h hL => ?_)
  obtain ⟨ck, cr, f, g, hn, hcap, hrm, hk6, hfg, hL⟩ := shB_o hL
  refine e_iconst 1 (v := (-1)) dX8_greatestKey_0 rfl (by decide) ?_
  refine e_istore_n 2 (ls' := [some (.ref s), some (.int (-1)), none]) dX8_greatestKey_1 rfl (by decide) rfl ?_
  refine e_iconst 3 (v := (nI 0)) dX8_greatestKey_2 rfl (by decide) ?_
  refine e_istore_n 4 (ls' := [some (.ref s), some (.int (-1)), some (.int (nI 0))]) dX8_greatestKey_3 rfl (by decide) rfl ?_
  exact l_X8_greatestKey hn hcap hrm hk6 hfg (K.length + 1) 0 h (by omega) (by omega) hL
set_option maxRecDepth 20000 in
set_option maxHeartbeats 2000000 in
/-- findOrMake(k) -/
theorem k_X8_findOrMake {s cap rm : Nat} {K : List (Nat × Nat)} {k : Nat} (hk : k < 65536) : CA mX8_findOrMake [.ref s, .int (nI k)] [shB s cap rm K] (fun r L => (∃ a, lkS K (nI k) = some a ∧ r = some (.ref a) ∧ L = [shB s cap rm K]) ∨ (lkS K (nI k) = none ∧ cap ≤ K.length ∧ r = some .null ∧ L = [shB s cap rm K]) ∨ (lkS K (nI k) = none ∧ K.length < cap ∧ ∃ q, r = some (.ref q) ∧ L = [shB s cap rm (K ++ [(k, q)]), row q rm []])) 2 42 2 (2 + rm) := by
  refine CA.mk 2 (ls := [some (.ref s), some (.int (nI k)), none, none]) rfl rfl (Nat.le_of_ble_eq_true rfl) rfl (fun h hL => ?_)
  refine e_aload_n 1 dX8_findOrMake_0 rfl rfl ?_
  refine e_iload_n 2 dX8_findOrMake_1 rfl rfl ?_
  refine p_callV 5 hL [0] 1 rfl (by decide) (L1 := [shB s cap rm K]) (L2 := []) rfl shB_O 0 rfl dX8_findOrMake_2 rfl cv_X8_28 k_X8_find rfl rfl (Nat.le_of_ble_eq_true rfl) ⟨by decide, by omega, by omega⟩ (fun r1 L1 h q hL => ?_)
  obtain ⟨rfl, rfl⟩ := q
  have hL : stars [shB s cap rm K] h := hL
  cases hlk : lkS K (nI k) with
  | none =>
    obtain ⟨ck, cr, f, g, hn, hcap, hrm, hk6, hfg, hL⟩ := shB_o hL
    refine e_astore_nN 6 (ls' := [some (.ref s), some (.int (nI k)), some .null, none]) dX8_findOrMake_5 rfl (by decide) rfl ?_
    refine e_aload_nN 7 dX8_findOrMake_6 rfl rfl ?_
    refine e_ifnonnullN 10 dX8_findOrMake_7 rfl ?_
    refine e_aload_n 11 dX8_findOrMake_10 rfl rfl ?_
    refine e_get 14 dX8_findOrMake_11 rfl fl_X8_25_6 (stars_at _ 0 hL rfl) rfl ?_
    refine e_aload_n 15 dX8_findOrMake_14 rfl rfl ?_
    refine e_get 18 dX8_findOrMake_15 rfl fl_X8_9_6 (stars_at _ 0 hL rfl) rfl ?_
    refine e_alen 19 (v := (nI cap)) dX8_findOrMake_18 rfl (stars_at _ 1 hL rfl) rfl rfl ?_
    refine e_icmp_ge 34 22 dX8_findOrMake_19 rfl rfl (fun c19 => ?_) (fun c19 => ?_)
    · have k19 := j_ge_t (a := K.length) (b := cap) (by omega) (by omega) c19
      refine e_aload_nN 35 dX8_findOrMake_34 rfl rfl ?_
      exact e_aret dX8_findOrMake_35 rfl (Or.inl rfl) (by omega) (by omega) (⟨_, Or.inr (Or.inl ⟨rfl, by omega, rfl, rfl⟩), shB_c (L := []) hL rfl hn hcap hrm hk6 hfg⟩)
    · have k19 := j_ge_f (a := K.length) (b := cap) (by omega) (by omega) c19
      refine e_aload_n 23 dX8_findOrMake_22 rfl rfl ?_
      refine e_get 26 dX8_findOrMake_23 rfl fl_X8_25_6 (stars_at _ 0 hL rfl) rfl ?_
      refine e_aload_n 27 dX8_findOrMake_26 rfl rfl ?_
      refine e_get 30 dX8_findOrMake_27 rfl fl_X8_17_6 (stars_at _ 0 hL rfl) rfl ?_
      refine e_alen 31 (v := (nI cap)) dX8_findOrMake_30 rfl (stars_at _ 2 hL rfl) rfl rfl ?_
      refine e_icmp_lt 36 34 dX8_findOrMake_31 rfl rfl (fun c31 => ?_) (fun c31 => ?_)
      · have k31 := j_lt_t (a := K.length) (b := cap) (by omega) (by omega) c31
        refine p_new 39 2 hL rfl dX8_findOrMake_36 rfl nc_X8_15 (by omega) (by omega) (fun q36 h hL => ?_)
        have hL : stars [pt q36 (.inr (4, [.null, .int 0])), pt s (.inr (6, [.ref ck, .ref cr, .int (nI rm), .int (nI K.length)])), pt ck (.inl (0, cap, .inl f)), pt cr (.inl (3, cap, .inr (.inr (.inr (.inr g)))))] h := hL
        refine e_dup 40 dX8_findOrMake_39 rfl rfl ?_
        refine e_aload_n 41 dX8_findOrMake_40 rfl rfl ?_
        refine e_get 44 dX8_findOrMake_41 rfl fl_X8_21_6 (stars_at _ 1 hL rfl) rfl ?_
        refine p_callI 47 hL [0, 1, 2, 3] 4 rfl (by decide) (L1 := [pt q36 (.inr (4, [.null, .int 0]))]) (L2 := [pt s (.inr (6, [.ref ck, .ref cr, .int (nI rm), .int (nI K.length)])), pt ck (.inl (0, cap, .inl f)), pt cr (.inl (3, cap, .inr (.inr (.inr (.inr g)))))]) rfl dX8_findOrMake_44 rfl ci_X8_32 (k_X4_init (by omega)) rfl rfl (Nat.le_of_ble_eq_true rfl) ⟨by decide, by omega, by omega⟩ (fun r1 L1 h q hL => ?_)
        obtain ⟨rfl, rfl⟩ := q
        have hL : stars [row q36 rm ([]), pt s (.inr (6, [.ref ck, .ref cr, .int (nI rm), .int (nI K.length)])), pt ck (.inl (0, cap, .inl f)), pt cr (.inl (3, cap, .inr (.inr (.inr (.inr g)))))] h := hL
        refine e_astore_n 48 (ls' := [some (.ref s), some (.int (nI k)), some .null, some (.ref q36)]) dX8_findOrMake_47 rfl (by decide) rfl ?_
        refine e_aload_n 49 dX8_findOrMake_48 rfl rfl ?_
        refine e_get 52 dX8_findOrMake_49 rfl fl_X8_9_6 (stars_at _ 1 hL rfl) rfl ?_
        refine e_aload_n 53 dX8_findOrMake_52 rfl rfl ?_
        refine e_get 56 dX8_findOrMake_53 rfl fl_X8_25_6 (stars_at _ 1 hL rfl) rfl ?_
        refine e_iload_n 57 dX8_findOrMake_56 rfl rfl ?_
        refine p_iast 58 hL 2 (k := K.length) (L' := [row q36 rm ([]), pt s (.inr (6, [.ref ck, .ref cr, .int (nI rm), .int (nI K.length)])), pt ck (.inl (0, cap, .inl (upd f K.length (nI k)))), pt cr (.inl (3, cap, .inr (.inr (.inr (.inr g)))))]) rfl rfl dX8_findOrMake_57 rfl (vp_in_nI (by omega) (by omega)) (nI_clamp (by omega)) (fun h hL => ?_)
        refine e_aload_n 59 dX8_findOrMake_58 rfl rfl ?_
        refine e_get 62 dX8_findOrMake_59 rfl fl_X8_17_6 (stars_at _ 1 hL rfl) rfl ?_
        refine e_aload_n 63 dX8_findOrMake_62 rfl rfl ?_
        refine e_get 66 dX8_findOrMake_63 rfl fl_X8_25_6 (stars_at _ 1 hL rfl) rfl ?_
        refine e_aload_n 67 dX8_findOrMake_66 rfl rfl ?_
        refine p_aastO 68 hL 3 0 (k := K.length) (L' := [row q36 rm ([]), pt s (.inr (6, [.ref ck, .ref cr, .int (nI rm), .int (nI K.length)])), pt ck (.inl (0, cap, .inl (upd f K.length (nI k)))), pt cr (.inl (3, cap, .inr (.inr (.inr (.inr (va_up g K.length (some q36)))))))]) rfl rfl row_O rfl dX8_findOrMake_67 rfl rfl rfl (vp_in_nI (by omega) (by omega)) (nI_clamp (by omega)) (fun h hL => ?_)
        refine e_aload_n 69 dX8_findOrMake_68 rfl rfl ?_
        refine e_dup 70 dX8_findOrMake_69 rfl rfl ?_
        refine e_get 73 dX8_findOrMake_70 rfl fl_X8_25_6 (stars_at _ 1 hL rfl) rfl ?_
        refine e_iconst 74 (v := (nI 1)) dX8_findOrMake_73 rfl (by decide) ?_
        refine e_iadd 75 (v := (nI (K.length + 1))) dX8_findOrMake_74 rfl (nI_add K.length 1) ?_
        refine p_put 78 hL 1 (fs' := [.ref ck, .ref cr, .int (nI rm), .int (nI (K.length + 1))]) (L' := [row q36 rm ([]), pt s (.inr (6, [.ref ck, .ref cr, .int (nI rm), .int (nI (K.length + 1))])), pt ck (.inl (0, cap, .inl (upd f K.length (nI k)))), pt cr (.inl (3, cap, .inr (.inr (.inr (.inr (va_up g K.length (some q36)))))))]) rfl rfl dX8_findOrMake_75 rfl fp_X8_25_6 (Or.inl rfl) (Nat.le_of_ble_eq_true rfl) rfl rfl rfl (fun h hL => ?_)
        refine e_aload_n 79 dX8_findOrMake_78 rfl rfl ?_
        exact e_aret dX8_findOrMake_79 rfl (Or.inr ⟨_, rfl⟩) (by omega) (by omega) (⟨_, Or.inr (Or.inr ⟨rfl, by omega, q36, rfl, rfl⟩), shB_c (L := [row q36 rm []]) (stars_ix hL [1, 2, 3, 0] rfl rfl) (by rw [List.length_append]; rfl) (by omega) hcap hrm (fun e he => by rcases List.mem_append.mp he with z | z; exact hk6 e z; rw [List.mem_singleton.mp z]; exact hk) (app_K hfg)⟩)
      · have k31 := j_lt_f (a := K.length) (b := cap) (by omega) (by omega) c31
        refine e_aload_nN 35 dX8_findOrMake_34 rfl rfl ?_
        exact e_aret dX8_findOrMake_35 rfl (Or.inl rfl) (by omega) (by omega) (⟨_, Or.inr (Or.inl ⟨rfl, by omega, rfl, rfl⟩), shB_c (L := []) hL rfl hn hcap hrm hk6 hfg⟩)
  | some a =>
    refine e_astore_n 6 (ls' := [some (.ref s), some (.int (nI k)), some (.ref a), none]) dX8_findOrMake_5 rfl (by decide) rfl ?_
    refine e_aload_n 7 dX8_findOrMake_6 rfl rfl ?_
    refine e_ifnonnull 34 dX8_findOrMake_7 rfl ?_
    refine e_aload_n 35 dX8_findOrMake_34 rfl rfl ?_
    exact e_aret dX8_findOrMake_35 rfl (Or.inr ⟨_, rfl⟩) (by omega) (by omega) (⟨_, Or.inl ⟨a, rfl, rfl, rfl⟩, hL⟩)
