theorem row_o {a cap : Nat} {r : List Nat} {L : List sA} {h : eH} (k : stars (row a cap r :: L) h) : ∃ (c : Nat) (f : Nat → Int32), r.length ≤ cap ∧ cap < 65536 ∧ (∀ i, i < r.length → f i = nI (r.getD i 0)) ∧ stars (pt a (.inr (4, [.ref c, .int (nI r.length)])) :: pt c (.inl (0, cap, .inl f)) :: L) h := by
  obtain ⟨h1, h2, hu, hj, ⟨c, ⟨f, ha, hc, hn, hcap, hf⟩, hz⟩, q⟩ := k
  refine ⟨c, f, hn, hcap, hf, ?_⟩
  have e : h1 = e_up (e_up e_em c (.inl (0, cap, .inl f))) a (.inr (4, [.ref c, .int (nI r.length)])) := by
    funext b
    by_cases e1 : b = a
    · subst e1; rw [e_up_s]; exact ha
    · rw [e_up_n e1]
      by_cases e2 : b = c
      · subst e2; rw [e_up_s]; exact hc
      · rw [e_up_n e2, hz b e1 e2]; rfl
  have k1 : stars [pt a (.inr (4, [.ref c, .int (nI r.length)])), pt c (.inl (0, cap, .inl f))] h1 := by
    rw [e]
    exact stars_new (stars_of rfl) (by rw [e_up_n (e_ne_oa ha hc)]; rfl)
  exact (stars_app [_, _] L).mpr ⟨h1, h2, hu, hj, k1, q⟩
theorem row_c {a c cap n : Nat} {r : List Nat} {f : Nat → Int32} {L : List sA} {h : eH} (k : stars (pt a (.inr (4, [.ref c, .int (nI n)])) :: pt c (.inl (0, cap, .inl f)) :: L) h) (hl : r.length = n) (hn : n ≤ cap) (hcap : cap < 65536) (hf : ∀ i, i < n → f i = nI (r.getD i 0)) : stars (row a cap r :: L) h := by
  subst hl
  refine stars_close (K := [_, _]) k (fun h1 k1 => ⟨c, ⟨f, stars_at _ 0 k1 rfl, stars_at _ 1 k1 rfl, hn, hcap, hf⟩, fun b e1 e2 => ?_⟩)
  obtain ⟨h2, h3, hu, hj, p, q⟩ := k1
  have q1 := stars_one q
  rw [← hu, p, q1, e_un_r (by rw [e_up_n e1]; rfl), e_up_n e2]
  rfl
theorem CA.mk {M : MD} {av : List Value} {L : List sA} {Q : Option Value → List sA → Prop} {fr lo mc ms : Nat} (j : Nat) {ls : List (Option Value)} (hy : (plainName M.1.cls && notLaw M.1) = true) (hav : av.all (fun v => v.category == 1) = true) (hn : av.length ≤ M.2.2.1) (hls : av.map some ++ List.replicate j none = ls) (k : ∀ h, stars L h → EE M fr lo mc ms (fun r h' => ∃ L', Q r L' ∧ stars L' h') 0 ls [] h 0 0) : CA M av L Q fr lo mc ms := fun h hL => Ct.mk j hy hav hn hls (k h hL)
set_option maxRecDepth 20000 in
set_option maxHeartbeats 2000000 in
/-- become(other, s, m) -/
theorem k_X4_become {a cap a2 cap2 : Nat} {r r2 : List Nat} {s m : Nat} (hs : s < 100000) (hm : m < 100000) : CA mX4_become [.ref a, .ref a2, .int (nI s), .int (nI m)] [row a cap r, row a2 cap2 r2] (fun x L => x = none ∧ L = [row a cap ((pf r2 s m).take cap), row a2 cap2 r2]) 1 25 0 0 := by
  refine CA.mk 0 (ls := [some (.ref a), some (.ref a2), some (.int (nI s)), some (.int (nI m))]) rfl rfl (Nat.le_of_ble_eq_true rfl) rfl (fun h hL => ?_)
  obtain ⟨c, f, hn, hcap, hf, hL⟩ := row_o hL
  refine e_aload_n 1 dX4_become_0 rfl rfl ?_
  refine e_iconst 2 (v := (nI 0)) dX4_become_1 rfl (by decide) ?_
  refine p_put 5 hL 0 (fs' := [.ref c, .int (nI 0)]) (L' := [pt a (.inr (4, [.ref c, .int (nI 0)])), pt c (.inl (0, cap, .inl f)), row a2 cap2 r2]) rfl rfl dX4_become_2 rfl fp_X4_15_4 (Or.inl rfl) (Nat.le_of_ble_eq_true rfl) rfl rfl rfl (fun h hL => ?_)
  refine e_aload_n 6 dX4_become_5 rfl rfl ?_
  refine e_aload_n 7 dX4_become_6 rfl rfl ?_
  refine e_iload_n 8 dX4_become_7 rfl rfl ?_
  refine e_iload_n 9 dX4_become_8 rfl rfl ?_
  have hL := row_c (r := []) hL rfl (Nat.zero_le _) hcap (fun i hi => absurd hi (Nat.not_lt_zero _))
  refine p_callV 12 hL [0, 1] 2 rfl (by decide) (L1 := [row a cap [], row a2 cap2 r2]) (L2 := []) rfl row_O 0 rfl dX4_become_9 rfl cv_X4_28 (k_X4_addPart hs hm) rfl rfl (Nat.le_of_ble_eq_true rfl) ⟨by decide, by omega, by omega⟩ (fun r1 L1 h q hL => ?_)
  obtain ⟨rfl, rfl⟩ := q
  have hL : stars [row a cap (([] ++ pf r2 s m).take cap), row a2 cap2 r2] h := hL
  exact e_vret dX4_become_12 rfl (by omega) (by omega) (⟨_, ⟨rfl, rfl⟩, hL⟩)
set_option maxRecDepth 20000 in
set_option maxHeartbeats 2000000 in
/-- Row(m) -/
theorem k_X4_init {a m : Nat} (hm : m < 65536) : CA mX4_init [.ref a, .int (nI m)] [pt a (.inr (4, [.null, .int 0]))] (fun x L => x = none ∧ L = [row a m []]) 1 20 1 m := by
  refine CA.mk 0 (ls := [some (.ref a), some (.int (nI m))]) rfl rfl (Nat.le_of_ble_eq_true rfl) rfl (fun h hL => ?_)
  refine e_aload_n 1 dX4_init_0 rfl rfl ?_
  refine e_objInit 4 dX4_init_1 rfl oi_X4_3 (by decide) (Nat.le_of_ble_eq_true rfl) ?_
  refine e_aload_n 5 dX4_init_4 rfl rfl ?_
  refine e_iload_n 6 dX4_init_5 rfl rfl ?_
  refine e_if_le 13 9 dX4_init_6 rfl rfl (fun c6 => ?_) (fun c6 => ?_)
  · have k6 := j_le0_t (a := m) (by omega) c6
    obtain rfl : m = 0 := by omega
    refine e_iconst 14 (v := (nI 0)) dX4_init_13 rfl (by decide) ?_
    refine p_newI 16 hL (N := 0) dX4_init_14 rfl (nI_pos (by omega)) (nI_clamp (by omega)) (by omega) (by omega) (by omega) (fun q14 h hL => ?_)
    refine p_put 19 hL 1 (fs' := [.ref q14, .int 0]) (L' := [pt q14 (.inl (0, 0, .inl (fun _ => 0))), pt a (.inr (4, [.ref q14, .int 0]))]) rfl rfl dX4_init_16 rfl fp_X4_9_4 (Or.inr rfl) (Nat.le_of_ble_eq_true rfl) rfl rfl rfl (fun h hL => ?_)
    refine e_aload_n 20 dX4_init_19 rfl rfl ?_
    refine e_iconst 21 (v := (nI 0)) dX4_init_20 rfl (by decide) ?_
    refine p_put 24 hL 1 (fs' := [.ref q14, .int (nI 0)]) (L' := [pt q14 (.inl (0, 0, .inl (fun _ => 0))), pt a (.inr (4, [.ref q14, .int (nI 0)]))]) rfl rfl dX4_init_21 rfl fp_X4_15_4 (Or.inl rfl) (Nat.le_of_ble_eq_true rfl) rfl rfl rfl (fun h hL => ?_)
    exact e_vret dX4_init_24 rfl (by omega) (by omega) (⟨_, ⟨rfl, rfl⟩, row_c (L := []) (stars_ix hL [1, 0] rfl rfl) rfl (Nat.zero_le _) hm (fun i hi => absurd hi (Nat.not_lt_zero _))⟩)
  · have k6 := j_le0_f (a := m) (by omega) c6
    refine e_iload_n 10 dX4_init_9 rfl rfl ?_
    refine e_goto 14 dX4_init_10 rfl ?_
    refine p_newI 16 hL (N := m) dX4_init_14 rfl (nI_pos (by omega)) (nI_clamp (by omega)) (by omega) (by omega) (by omega) (fun q14 h hL => ?_)
    refine p_put 19 hL 1 (fs' := [.ref q14, .int 0]) (L' := [pt q14 (.inl (0, m, .inl (fun _ => 0))), pt a (.inr (4, [.ref q14, .int 0]))]) rfl rfl dX4_init_16 rfl fp_X4_9_4 (Or.inr rfl) (Nat.le_of_ble_eq_true rfl) rfl rfl rfl (fun h hL => ?_)
    refine e_aload_n 20 dX4_init_19 rfl rfl ?_
    refine e_iconst 21 (v := (nI 0)) dX4_init_20 rfl (by decide) ?_
    refine p_put 24 hL 1 (fs' := [.ref q14, .int (nI 0)]) (L' := [pt q14 (.inl (0, m, .inl (fun _ => 0))), pt a (.inr (4, [.ref q14, .int (nI 0)]))]) rfl rfl dX4_init_21 rfl fp_X4_15_4 (Or.inl rfl) (Nat.le_of_ble_eq_true rfl) rfl rfl rfl (fun h hL => ?_)
    exact e_vret dX4_init_24 rfl (by omega) (by omega) (⟨_, ⟨rfl, rfl⟩, row_c (L := []) (stars_ix hL [1, 0] rfl rfl) rfl (Nat.zero_le _) hm (fun i hi => absurd hi (Nat.not_lt_zero _))⟩)
def bI (b : Bool) : Int32 := match b with
  | true => nI 1
  | false => nI 0
theorem bI_01 (b : Bool) : bI b = 0 ∨ bI b = 1 := by cases b <;> first | exact Or.inl (by decide) | exact Or.inr (by decide)
theorem bI_nar (b : Bool) : narrow .boolean (.int (bI b)) = .int (bI b) := by cases b <;> decide
theorem jb_eq_t {b : Bool} (h : bI b = 0) : b = false := by cases b; rfl; exact absurd h (by decide)
theorem jb_eq_f {b : Bool} (h : ¬ bI b = 0) : b = true := by cases b; exact absurd (by decide) h; rfl
theorem jb_ne_t {b : Bool} (h : ¬ bI b = 0) : b = true := jb_eq_f h
theorem jb_ne_f {b : Bool} (h : bI b = 0) : b = false := jb_eq_t h
def bgn (r r2 : List Nat) (m : Nat) : Bool := decide (m ≤ r.length) && (decide (m ≤ r2.length) && (List.range m).all (fun i => r.getD i 0 == r2.getD i 0))
theorem bgn_t {r r2 : List Nat} {m : Nat} (h1 : m ≤ r.length) (h2 : m ≤ r2.length) (h : ∀ i, i < m → r.getD i 0 = r2.getD i 0) : bgn r r2 m = true := by
  simp only [bgn, h1, h2, decide_true, Bool.true_and, List.all_eq_true, List.mem_range, beq_iff_eq]
  exact h
theorem bgn_f1 {r r2 : List Nat} {m : Nat} (h : r.length < m ∨ r2.length < m) : bgn r r2 m = false := by
  rcases h with h | h
  · simp [bgn, show ¬ m ≤ r.length by omega]
  · simp [bgn, show ¬ m ≤ r2.length by omega]
theorem bgn_f2 {r r2 : List Nat} {m i : Nat} (hi : i < m) (h : r.getD i 0 ≠ r2.getD i 0) : bgn r r2 m = false := by
  cases e : bgn r r2 m with
  | false => rfl
  | true =>
    simp only [bgn, Bool.and_eq_true, List.all_eq_true, List.mem_range, beq_iff_eq] at e
    exact absurd (e.2.2 i hi) h
theorem rr_close {a cap a2 cap2 c c2 : Nat} {r r2 : List Nat} {f f2 : Nat → Int32} {h : eH} (hL : stars [pt a (.inr (4, [.ref c, .int (nI r.length)])), pt c (.inl (0, cap, .inl f)), pt a2 (.inr (4, [.ref c2, .int (nI r2.length)])), pt c2 (.inl (0, cap2, .inl f2))] h) (hn : r.length ≤ cap) (hcap : cap < 65536) (hf : ∀ i, i < r.length → f i = nI (r.getD i 0)) (hn2 : r2.length ≤ cap2) (hcap2 : cap2 < 65536) (hf2 : ∀ i, i < r2.length → f2 i = nI (r2.getD i 0)) : stars [row a cap r, row a2 cap2 r2] h := by
  have hL := row_c hL rfl hn hcap hf
  have hL := row_c (stars_ix (L' := [pt a2 _, pt c2 _, row a cap r]) hL [1, 2, 0] rfl rfl) rfl hn2 hcap2 hf2
  exact stars_ix hL [1, 0] rfl rfl
set_option maxRecDepth 20000 in
set_option maxHeartbeats 2000000 in
theorem l_X4_beginsAs {a cap a2 cap2 c c2 m : Nat} {r r2 : List Nat} {f f2 : Nat → Int32} {fr lo : Nat} (hn : r.length ≤ cap) (hcap : cap < 65536) (hf : ∀ i, i < r.length → f i = nI (r.getD i 0)) (hn2 : r2.length ≤ cap2) (hcap2 : cap2 < 65536) (hf2 : ∀ i, i < r2.length → f2 i = nI (r2.getD i 0)) (hb : ∀ x ∈ r, x < 65536) (hb2 : ∀ x ∈ r2, x < 65536) (h1 : m ≤ r.length) (h2 : m ≤ r2.length) : ∀ (n : Nat) (i : Nat) (h : eH), m - i < n → i ≤ m → (∀ j, j < i → r.getD j 0 = r2.getD j 0) → stars [pt a (.inr (4, [.ref c, .int (nI r.length)])), pt c (.inl (0, cap, .inl f)), pt a2 (.inr (4, [.ref c2, .int (nI r2.length)])), pt c2 (.inl (0, cap2, .inl f2))] h → EE mX4_beginsAs fr lo 0 0 (fun x h' => ∃ L', (x = some (.int (bI (bgn r r2 m))) ∧ L' = [row a cap r, row a2 cap2 r2]) ∧ stars L' h') 20 [some (.ref a), some (.ref a2), some (.int (nI m)), some (.int (nI i))] [] h 0 0 := by
  intro n
  induction n with
  | zero => intro i h hlt hi he hL; exact absurd hlt (by omega)
  | succ n ih =>
    intro i h hlt hi he hL
    have hb1 := gd_lt (i := i) hb (by decide)
    have hb3 := gd_lt (i := i) hb2 (by decide)
    refine e_iload_n 21 dX4_beginsAs_20 rfl rfl ?_
    refine e_iload_n 22 dX4_beginsAs_21 rfl rfl ?_
    refine e_icmp_ge 48 25 dX4_beginsAs_22 rfl rfl (fun c22 => ?_) (fun c22 => ?_)
    · have k22 := j_ge_t (a := i) (b := m) (by omega) (by omega) c22
      refine e_iconst 49 (v := (nI 1)) dX4_beginsAs_48 rfl (by decide) ?_
      exact e_zret dX4_beginsAs_49 rfl (Or.inr (by decide)) (by omega) (by omega) (⟨_, ⟨by rw [bgn_t (by omega) (by omega) (fun j hj => he j (by omega))]; rfl, rfl⟩, rr_close hL hn hcap hf hn2 hcap2 hf2⟩)
    · have k22 := j_ge_f (a := i) (b := m) (by omega) (by omega) c22
      refine e_aload_n 26 dX4_beginsAs_25 rfl rfl ?_
      refine e_get 29 dX4_beginsAs_26 rfl fl_X4_9_4 (stars_at _ 0 hL rfl) rfl ?_
      refine e_iload_n 30 dX4_beginsAs_29 rfl rfl ?_
      refine e_iald 31 (v := (nI (r.getD i 0))) dX4_beginsAs_30 rfl (stars_at _ 1 hL rfl) (vp_in_nI (by omega) (by omega)) ((congrArg f (nI_clamp (by omega))).trans (hf _ (by omega))) ?_
      refine e_aload_n 32 dX4_beginsAs_31 rfl rfl ?_
      refine e_get 35 dX4_beginsAs_32 rfl fl_X4_9_4 (stars_at _ 2 hL rfl) rfl ?_
      refine e_iload_n 36 dX4_beginsAs_35 rfl rfl ?_
      refine e_iald 37 (v := (nI (r2.getD i 0))) dX4_beginsAs_36 rfl (stars_at _ 3 hL rfl) (vp_in_nI (by omega) (by omega)) ((congrArg f2 (nI_clamp (by omega))).trans (hf2 _ (by omega))) ?_
      refine e_icmp_eq 42 40 dX4_beginsAs_37 rfl rfl (fun c37 => ?_) (fun c37 => ?_)
      · have k37 := j_eq_t (a := (r.getD i 0)) (b := (r2.getD i 0)) (by omega) (by omega) c37
        refine e_iinc 45 (v := (nI (i + 1))) (ls' := [some (.ref a), some (.ref a2), some (.int (nI m)), some (.int (nI (i + 1)))]) dX4_beginsAs_42 rfl rfl (nI_add i 1) (by decide) rfl ?_
        refine e_goto 20 dX4_beginsAs_45 rfl ?_
        exact ih (i + 1) h (by omega) (by omega) (lt_s he k37) hL
      · have k37 := j_eq_f (a := (r.getD i 0)) (b := (r2.getD i 0)) (by omega) (by omega) c37
        refine e_iconst 41 (v := (nI 0)) dX4_beginsAs_40 rfl (by decide) ?_
        exact e_zret dX4_beginsAs_41 rfl (Or.inl (by decide)) (by omega) (by omega) (⟨_, ⟨by rw [bgn_f2 k22 k37]; rfl, rfl⟩, rr_close hL hn hcap hf hn2 hcap2 hf2⟩)
set_option maxRecDepth 20000 in
set_option maxHeartbeats 2000000 in
/-- beginsAs(other, m) -/
theorem k_X4_beginsAs {a cap a2 cap2 m : Nat} {r r2 : List Nat} (hm : m < 65536) (hb : ∀ x ∈ r, x < 65536) (hb2 : ∀ x ∈ r2, x < 65536) : CA mX4_beginsAs [.ref a, .ref a2, .int (nI m)] [row a cap r, row a2 cap2 r2] (fun x L => x = some (.int (bI (bgn r r2 m))) ∧ L = [row a cap r, row a2 cap2 r2]) 0 0 0 0 := by
  refine CA.mk 1 (ls := [some (.ref a), some (.ref a2), some (.int (nI m)), none]) rfl rfl (Nat.le_of_ble_eq_true rfl) rfl (fun h hL => ?_)
  obtain ⟨c, f, hn, hcap, hf, hL⟩ := row_o hL
  have hL := stars_ix hL [2, 0, 1] rfl rfl
  obtain ⟨c2, f2, hn2, hcap2, hf2, hL⟩ := row_o hL
  have hL := stars_ix hL [2, 3, 0, 1] rfl rfl
  refine e_aload_n 1 dX4_beginsAs_0 rfl rfl ?_
  refine e_get 4 dX4_beginsAs_1 rfl fl_X4_15_4 (stars_at _ 0 hL rfl) rfl ?_
  refine e_iload_n 5 dX4_beginsAs_4 rfl rfl ?_
  refine e_icmp_lt 16 8 dX4_beginsAs_5 rfl rfl (fun c5 => ?_) (fun c5 => ?_)
  · have k5 := j_lt_t (a := r.length) (b := m) (by omega) (by omega) c5
    refine e_iconst 17 (v := (nI 0)) dX4_beginsAs_16 rfl (by decide) ?_
    exact e_zret dX4_beginsAs_17 rfl (Or.inl (by decide)) (by omega) (by omega) (⟨_, ⟨by rw [bgn_f1 (by omega)]; rfl, rfl⟩, rr_close hL hn hcap hf hn2 hcap2 hf2⟩)
  · have k5 := j_lt_f (a := r.length) (b := m) (by omega) (by omega) c5
    refine e_aload_n 9 dX4_beginsAs_8 rfl rfl ?_
    refine e_get 12 dX4_beginsAs_9 rfl fl_X4_15_4 (stars_at _ 2 hL rfl) rfl ?_
    refine e_iload_n 13 dX4_beginsAs_12 rfl rfl ?_
    refine e_icmp_ge 18 16 dX4_beginsAs_13 rfl rfl (fun c13 => ?_) (fun c13 => ?_)
    · have k13 := j_ge_t (a := r2.length) (b := m) (by omega) (by omega) c13
      refine e_iconst 19 (v := (nI 0)) dX4_beginsAs_18 rfl (by decide) ?_
      refine e_istore_n 20 (ls' := [some (.ref a), some (.ref a2), some (.int (nI m)), some (.int (nI 0))]) dX4_beginsAs_19 rfl (by decide) rfl ?_
      exact l_X4_beginsAs hn hcap hf hn2 hcap2 hf2 hb hb2 (by omega) (by omega) (m + 1) 0 h (by omega) (by omega) lt_0 hL
    · have k13 := j_ge_f (a := r2.length) (b := m) (by omega) (by omega) c13
      refine e_iconst 17 (v := (nI 0)) dX4_beginsAs_16 rfl (by decide) ?_
      exact e_zret dX4_beginsAs_17 rfl (Or.inl (by decide)) (by omega) (by omega) (⟨_, ⟨by rw [bgn_f1 (by omega)]; rfl, rfl⟩, rr_close hL hn hcap hf hn2 hcap2 hf2⟩)
/-- of a full row the oldest goes -/
def lat (cap : Nat) (r : List Nat) (v : Nat) : List Nat := if r.length < cap then r ++ [v] else if cap = 0 then r else r.tail ++ [v]
theorem shift_step {g f0 : Nat → Int32} {i : Nat} (h1 : ∀ j, j + 1 < i → g j = f0 (j + 1)) (h2 : ∀ j, i ≤ j + 1 → g j = f0 j) (hi : 1 ≤ i) : (∀ j, j + 1 < i + 1 → upd g (i - 1) (g i) j = f0 (j + 1)) ∧ (∀ j, i + 1 ≤ j + 1 → upd g (i - 1) (g i) j = f0 j) := by
  refine ⟨fun j hj => ?_, fun j hj => ?_⟩
  · by_cases e : j = i - 1
    · subst e
      rw [pk_us, h2 i (by omega), show i - 1 + 1 = i by omega]
    · rw [pk_un e, h1 j (by omega)]
  · rw [pk_un (by omega), h2 j (by omega)]
theorem lat_close {a cap c v i : Nat} {r : List Nat} {f g : Nat → Int32} {h : eH} (hL : stars [pt a (.inr (4, [.ref c, .int (nI (r.length - 1 + 1))])), pt c (.inl (0, cap, .inl (upd g (r.length - 1) (nI v))))] h) (s1 : ∀ j, j + 1 < i → g j = f (j + 1)) (hf : ∀ i, i < r.length → f i = nI (r.getD i 0)) (h0 : 0 < r.length) (hl : r.length = cap ∧ r.length ≤ i) (hcap : cap < 65536) : stars [row a cap (lat cap r v)] h := by
  have e : lat cap r v = r.tail ++ [v] := by simp only [lat]; rw [if_neg (by omega), if_neg (by omega)]
  rw [e]
  refine row_c (L := []) hL (by rw [List.length_append, List.length_tail]; rfl) (by omega) hcap (fun j hj => ?_)
  by_cases e : j = r.length - 1
  · subst e
    have e2 : r.length - 1 = r.tail.length := by rw [List.length_tail]
    rw [pk_us, e2, gd_last]
  · rw [pk_un e, gd_app (by rw [List.length_tail]; omega), gd_tail, s1 j (by omega), hf (j + 1) (by omega)]
set_option maxRecDepth 20000 in
set_option maxHeartbeats 2000000 in
theorem l_X4_addLatest {a cap c v : Nat} {r : List Nat} {f : Nat → Int32} {fr lo : Nat} (hl : r.length = cap) (h0 : 0 < r.length) (hcap : cap < 65536) (hf : ∀ i, i < r.length → f i = nI (r.getD i 0)) : ∀ (n : Nat) (i : Nat) (g : Nat → Int32) (h : eH), r.length - i < n → 1 ≤ i → i ≤ r.length → (∀ j, j + 1 < i → g j = f (j + 1)) → (∀ j, i ≤ j + 1 → g j = f j) → stars [pt a (.inr (4, [.ref c, .int (nI r.length)])), pt c (.inl (0, cap, .inl g))] h → EE mX4_addLatest fr lo 0 0 (fun x h' => ∃ L', (x = none ∧ L' = [row a cap (lat cap r v)]) ∧ stars L' h') 21 [some (.ref a), some (.int (nI v)), some (.int (nI i))] [] h 0 0 := by
  intro n
  induction n with
  | zero => intro i g h hlt hi hi2 s1 s2 hL; exact absurd hlt (by omega)
  | succ n ih =>
    intro i g h hlt hi hi2 s1 s2 hL
    refine e_iload_n 22 dX4_addLatest_21 rfl rfl ?_
    refine e_aload_n 23 dX4_addLatest_22 rfl rfl ?_
    refine e_get 26 dX4_addLatest_23 rfl fl_X4_15_4 (stars_at _ 0 hL rfl) rfl ?_
    refine e_icmp_ge 49 29 dX4_addLatest_26 rfl rfl (fun c26 => ?_) (fun c26 => ?_)
    · have k26 := j_ge_t (a := i) (b := r.length) (by omega) (by omega) c26
      refine e_aload_n 50 dX4_addLatest_49 rfl rfl ?_
      refine e_dup 51 dX4_addLatest_50 rfl rfl ?_
      refine e_get 54 dX4_addLatest_51 rfl fl_X4_15_4 (stars_at _ 0 hL rfl) rfl ?_
      refine e_iconst 55 (v := (nI 1)) dX4_addLatest_54 rfl (by decide) ?_
      refine e_isub 56 (v := (nI (r.length - 1))) dX4_addLatest_55 rfl (pk_sub (by omega)) ?_
      refine p_put 59 hL 0 (fs' := [.ref c, .int (nI (r.length - 1))]) (L' := [pt a (.inr (4, [.ref c, .int (nI (r.length - 1))])), pt c (.inl (0, cap, .inl g))]) rfl rfl dX4_addLatest_56 rfl fp_X4_15_4 (Or.inl rfl) (Nat.le_of_ble_eq_true rfl) rfl rfl rfl (fun h hL => ?_)
      refine e_aload_n 60 dX4_addLatest_59 rfl rfl ?_
      refine e_get 63 dX4_addLatest_60 rfl fl_X4_15_4 (stars_at _ 0 hL rfl) rfl ?_
      refine e_aload_n 64 dX4_addLatest_63 rfl rfl ?_
      refine e_get 67 dX4_addLatest_64 rfl fl_X4_9_4 (stars_at _ 0 hL rfl) rfl ?_
      refine e_alen 68 (v := (nI cap)) dX4_addLatest_67 rfl (stars_at _ 1 hL rfl) rfl rfl ?_
      refine e_icmp_ge 91 71 dX4_addLatest_68 rfl rfl (fun c68 => absurd c68 (fun z => absurd (j_ge_t (a := r.length - 1) (b := cap) (by omega) (by omega) z) (by omega))) (fun c68 => ?_)
      refine e_aload_n 72 dX4_addLatest_71 rfl rfl ?_
      refine e_get 75 dX4_addLatest_72 rfl fl_X4_9_4 (stars_at _ 0 hL rfl) rfl ?_
      refine e_aload_n 76 dX4_addLatest_75 rfl rfl ?_
      refine e_get 79 dX4_addLatest_76 rfl fl_X4_15_4 (stars_at _ 0 hL rfl) rfl ?_
      refine e_iload_n 80 dX4_addLatest_79 rfl rfl ?_
      refine p_iast 81 hL 1 (k := (r.length - 1)) (L' := [pt a (.inr (4, [.ref c, .int (nI (r.length - 1))])), pt c (.inl (0, cap, .inl (upd g (r.length - 1) (nI v))))]) rfl rfl dX4_addLatest_80 rfl (vp_in_nI (by omega) (by omega)) (nI_clamp (by omega)) (fun h hL => ?_)
      refine e_aload_n 82 dX4_addLatest_81 rfl rfl ?_
      refine e_dup 83 dX4_addLatest_82 rfl rfl ?_
      refine e_get 86 dX4_addLatest_83 rfl fl_X4_15_4 (stars_at _ 0 hL rfl) rfl ?_
      refine e_iconst 87 (v := (nI 1)) dX4_addLatest_86 rfl (by decide) ?_
      refine e_iadd 88 (v := (nI ((r.length - 1) + 1))) dX4_addLatest_87 rfl (nI_add (r.length - 1) 1) ?_
      refine p_put 91 hL 0 (fs' := [.ref c, .int (nI ((r.length - 1) + 1))]) (L' := [pt a (.inr (4, [.ref c, .int (nI ((r.length - 1) + 1))])), pt c (.inl (0, cap, .inl (upd g (r.length - 1) (nI v))))]) rfl rfl dX4_addLatest_88 rfl fp_X4_15_4 (Or.inl rfl) (Nat.le_of_ble_eq_true rfl) rfl rfl rfl (fun h hL => ?_)
      exact e_vret dX4_addLatest_91 rfl (by omega) (by omega) (⟨_, ⟨rfl, rfl⟩, lat_close hL s1 hf (by omega) (by omega) hcap⟩)
    · have k26 := j_ge_f (a := i) (b := r.length) (by omega) (by omega) c26
      refine e_aload_n 30 dX4_addLatest_29 rfl rfl ?_
      refine e_get 33 dX4_addLatest_30 rfl fl_X4_9_4 (stars_at _ 0 hL rfl) rfl ?_
      refine e_iload_n 34 dX4_addLatest_33 rfl rfl ?_
      refine e_iconst 35 (v := (nI 1)) dX4_addLatest_34 rfl (by decide) ?_
      refine e_isub 36 (v := (nI (i - 1))) dX4_addLatest_35 rfl (pk_sub (by omega)) ?_
      refine e_aload_n 37 dX4_addLatest_36 rfl rfl ?_
      refine e_get 40 dX4_addLatest_37 rfl fl_X4_9_4 (stars_at _ 0 hL rfl) rfl ?_
      refine e_iload_n 41 dX4_addLatest_40 rfl rfl ?_
      refine e_iald 42 (v := (g i)) dX4_addLatest_41 rfl (stars_at _ 1 hL rfl) (vp_in_nI (by omega) (by omega)) (congrArg g (nI_clamp (by omega))) ?_
      refine p_iast 43 hL 1 (k := (i - 1)) (L' := [pt a (.inr (4, [.ref c, .int (nI r.length)])), pt c (.inl (0, cap, .inl (upd g (i - 1) (g i))))]) rfl rfl dX4_addLatest_42 rfl (vp_in_nI (by omega) (by omega)) (nI_clamp (by omega)) (fun h hL => ?_)
      refine e_iinc 46 (v := (nI (i + 1))) (ls' := [some (.ref a), some (.int (nI v)), some (.int (nI (i + 1)))]) dX4_addLatest_43 rfl rfl (nI_add i 1) (by decide) rfl ?_
      refine e_goto 21 dX4_addLatest_46 rfl ?_
      exact ih (i + 1) _ h (by omega) (by omega) (by omega) (shift_step s1 s2 (by omega)).1 (shift_step s1 s2 (by omega)).2 hL
theorem push_f {r : List Nat} {v : Nat} {f : Nat → Int32} (hf : ∀ i, i < r.length → f i = nI (r.getD i 0)) : ∀ i, i < r.length + 1 → upd f r.length (nI v) i = nI ((r ++ [v]).getD i 0) := by
  intro i hi
  by_cases e : i = r.length
  · subst e; rw [pk_us, gd_last]
  · rw [pk_un e, gd_app (by omega), hf i (by omega)]
set_option maxRecDepth 20000 in
set_option maxHeartbeats 2000000 in
/-- addLatest(v) -/
theorem k_X4_addLatest {a cap v : Nat} {r : List Nat} : CA mX4_addLatest [.ref a, .int (nI v)] [row a cap r] (fun x L => x = none ∧ L = [row a cap (lat cap r v)]) 0 0 0 0 := by
  refine CA.mk 1 (ls := [some (.ref a), some (.int (nI v)), none]) rfl rfl (Nat.le_of_ble_eq_true rfl) rfl (fun h hL => ?_)
  obtain ⟨c, f, hn, hcap, hf, hL⟩ := row_o hL
  refine e_aload_n 1 dX4_addLatest_0 rfl rfl ?_
  refine e_get 4 dX4_addLatest_1 rfl fl_X4_15_4 (stars_at _ 0 hL rfl) rfl ?_
  refine e_if_le 59 7 dX4_addLatest_4 rfl rfl (fun c4 => ?_) (fun c4 => ?_)
  · have k4 := j_le0_t (a := r.length) (by omega) c4
    refine e_aload_n 60 dX4_addLatest_59 rfl rfl ?_
    refine e_get 63 dX4_addLatest_60 rfl fl_X4_15_4 (stars_at _ 0 hL rfl) rfl ?_
    refine e_aload_n 64 dX4_addLatest_63 rfl rfl ?_
    refine e_get 67 dX4_addLatest_64 rfl fl_X4_9_4 (stars_at _ 0 hL rfl) rfl ?_
    refine e_alen 68 (v := (nI cap)) dX4_addLatest_67 rfl (stars_at _ 1 hL rfl) rfl rfl ?_
    refine e_icmp_ge 91 71 dX4_addLatest_68 rfl rfl (fun c68 => ?_) (fun c68 => ?_)
    · have k68 := j_ge_t (a := r.length) (b := cap) (by omega) (by omega) c68
      exact e_vret dX4_addLatest_91 rfl (by omega) (by omega) (⟨_, ⟨rfl, rfl⟩, by rw [lat, if_neg (by omega), if_pos (by omega)]; exact row_c (L := []) hL rfl hn hcap hf⟩)
    · have k68 := j_ge_f (a := r.length) (b := cap) (by omega) (by omega) c68
      refine e_aload_n 72 dX4_addLatest_71 rfl rfl ?_
      refine e_get 75 dX4_addLatest_72 rfl fl_X4_9_4 (stars_at _ 0 hL rfl) rfl ?_
      refine e_aload_n 76 dX4_addLatest_75 rfl rfl ?_
      refine e_get 79 dX4_addLatest_76 rfl fl_X4_15_4 (stars_at _ 0 hL rfl) rfl ?_
      refine e_iload_n 80 dX4_addLatest_79 rfl rfl ?_
      refine p_iast 81 hL 1 (k := r.length) (L' := [pt a (.inr (4, [.ref c, .int (nI r.length)])), pt c (.inl (0, cap, .inl (upd f r.length (nI v))))]) rfl rfl dX4_addLatest_80 rfl (vp_in_nI (by omega) (by omega)) (nI_clamp (by omega)) (fun h hL => ?_)
      refine e_aload_n 82 dX4_addLatest_81 rfl rfl ?_
      refine e_dup 83 dX4_addLatest_82 rfl rfl ?_
      refine e_get 86 dX4_addLatest_83 rfl fl_X4_15_4 (stars_at _ 0 hL rfl) rfl ?_
      refine e_iconst 87 (v := (nI 1)) dX4_addLatest_86 rfl (by decide) ?_
      refine e_iadd 88 (v := (nI (r.length + 1))) dX4_addLatest_87 rfl (nI_add r.length 1) ?_
      refine p_put 91 hL 0 (fs' := [.ref c, .int (nI (r.length + 1))]) (L' := [pt a (.inr (4, [.ref c, .int (nI (r.length + 1))])), pt c (.inl (0, cap, .inl (upd f r.length (nI v))))]) rfl rfl dX4_addLatest_88 rfl fp_X4_15_4 (Or.inl rfl) (Nat.le_of_ble_eq_true rfl) rfl rfl rfl (fun h hL => ?_)
      exact e_vret dX4_addLatest_91 rfl (by omega) (by omega) (⟨_, ⟨rfl, rfl⟩, by rw [lat, if_pos (by omega)]; exact row_c (L := []) hL (by rw [List.length_append]; rfl) (by omega) hcap (push_f hf)⟩)
  · have k4 := j_le0_f (a := r.length) (by omega) c4
    refine e_aload_n 8 dX4_addLatest_7 rfl rfl ?_
    refine e_get 11 dX4_addLatest_8 rfl fl_X4_15_4 (stars_at _ 0 hL rfl) rfl ?_
    refine e_aload_n 12 dX4_addLatest_11 rfl rfl ?_
    refine e_get 15 dX4_addLatest_12 rfl fl_X4_9_4 (stars_at _ 0 hL rfl) rfl ?_
    refine e_alen 16 (v := (nI cap)) dX4_addLatest_15 rfl (stars_at _ 1 hL rfl) rfl rfl ?_
    refine e_icmp_lt 59 19 dX4_addLatest_16 rfl rfl (fun c16 => ?_) (fun c16 => ?_)
    · have k16 := j_lt_t (a := r.length) (b := cap) (by omega) (by omega) c16
      refine e_aload_n 60 dX4_addLatest_59 rfl rfl ?_
      refine e_get 63 dX4_addLatest_60 rfl fl_X4_15_4 (stars_at _ 0 hL rfl) rfl ?_
      refine e_aload_n 64 dX4_addLatest_63 rfl rfl ?_
      refine e_get 67 dX4_addLatest_64 rfl fl_X4_9_4 (stars_at _ 0 hL rfl) rfl ?_
      refine e_alen 68 (v := (nI cap)) dX4_addLatest_67 rfl (stars_at _ 1 hL rfl) rfl rfl ?_
      refine e_icmp_ge 91 71 dX4_addLatest_68 rfl rfl (fun c68 => ?_) (fun c68 => ?_)
      · have k68 := j_ge_t (a := r.length) (b := cap) (by omega) (by omega) c68
        exact e_vret dX4_addLatest_91 rfl (by omega) (by omega) (⟨_, ⟨rfl, rfl⟩, by rw [lat, if_neg (by omega), if_pos (by omega)]; exact row_c (L := []) hL rfl hn hcap hf⟩)
      · have k68 := j_ge_f (a := r.length) (b := cap) (by omega) (by omega) c68
        refine e_aload_n 72 dX4_addLatest_71 rfl rfl ?_
        refine e_get 75 dX4_addLatest_72 rfl fl_X4_9_4 (stars_at _ 0 hL rfl) rfl ?_
        refine e_aload_n 76 dX4_addLatest_75 rfl rfl ?_
        refine e_get 79 dX4_addLatest_76 rfl fl_X4_15_4 (stars_at _ 0 hL rfl) rfl ?_
        refine e_iload_n 80 dX4_addLatest_79 rfl rfl ?_
        refine p_iast 81 hL 1 (k := r.length) (L' := [pt a (.inr (4, [.ref c, .int (nI r.length)])), pt c (.inl (0, cap, .inl (upd f r.length (nI v))))]) rfl rfl dX4_addLatest_80 rfl (vp_in_nI (by omega) (by omega)) (nI_clamp (by omega)) (fun h hL => ?_)
        refine e_aload_n 82 dX4_addLatest_81 rfl rfl ?_
        refine e_dup 83 dX4_addLatest_82 rfl rfl ?_
        refine e_get 86 dX4_addLatest_83 rfl fl_X4_15_4 (stars_at _ 0 hL rfl) rfl ?_
        refine e_iconst 87 (v := (nI 1)) dX4_addLatest_86 rfl (by decide) ?_
        refine e_iadd 88 (v := (nI (r.length + 1))) dX4_addLatest_87 rfl (nI_add r.length 1) ?_
        refine p_put 91 hL 0 (fs' := [.ref c, .int (nI (r.length + 1))]) (L' := [pt a (.inr (4, [.ref c, .int (nI (r.length + 1))])), pt c (.inl (0, cap, .inl (upd f r.length (nI v))))]) rfl rfl dX4_addLatest_88 rfl fp_X4_15_4 (Or.inl rfl) (Nat.le_of_ble_eq_true rfl) rfl rfl rfl (fun h hL => ?_)
        exact e_vret dX4_addLatest_91 rfl (by omega) (by omega) (⟨_, ⟨rfl, rfl⟩, by rw [lat, if_pos (by omega)]; exact row_c (L := []) hL (by rw [List.length_append]; rfl) (by omega) hcap (push_f hf)⟩)
    · have k16 := j_lt_f (a := r.length) (b := cap) (by omega) (by omega) c16
      refine e_iconst 20 (v := (nI 1)) dX4_addLatest_19 rfl (by decide) ?_
      refine e_istore_n 21 (ls' := [some (.ref a), some (.int (nI v)), some (.int (nI 1))]) dX4_addLatest_20 rfl (by decide) rfl ?_
      exact l_X4_addLatest (by omega) (by omega) hcap hf (r.length + 1) 1 f h (by omega) (by omega) (by omega) (fun j hj => absurd hj (by omega)) (fun j hj => rfl) hL
