theorem row_o {a cap : Nat} {r : List Nat} {L : List sA} {h : eH} (k : stars (row a cap r :: L) h) : ∃ (c : Nat) (f : Nat → Int32), r.length ≤ cap ∧ cap < 65536 ∧ (∀ i, i < r.length → f i = nI (r.getD i 0)) ∧ stars (pt a (.inr (4, [.ref c, .int (nI r.length)])) :: pt c (.inl (0, cap, .inl f)) :: L) h := by
  obtain ⟨h1, h2, hu, hj, ⟨c, ⟨f, ha, hc, hn, hcap, hf⟩, hz⟩, q⟩ := k
  refine ⟨c, f, hn, hcap, hf, ?_⟩
  have e : h1 = e_up (e_up e_em c (.inl (0, cap, .inl f))) a (.inr (4, [.ref c, .int (nI r.length)])) := by
    funext b
    by_cases e1 : b = a
    · subst e1; rw [e_up_s]; exact ha
    · rw [e_up_n e1]
      by_cases e2 : b = c
      · subst e2; rw [e_up_s]; exact hc
      · rw [e_up_n e2, hz b e1 e2]; rfl
  have k1 : stars [pt a (.inr (4, [.ref c, .int (nI r.length)])), pt c (.inl (0, cap, .inl f))] h1 := by
    rw [e]
    exact stars_new (stars_of rfl) (by rw [e_up_n (e_ne_oa ha hc)]; rfl)
  exact (stars_app [_, _] L).mpr ⟨h1, h2, hu, hj, k1, q⟩
theorem row_c {a c cap n : Nat} {r : List Nat} {f : Nat → Int32} {L : List sA} {h : eH} (k : stars (pt a (.inr (4, [.ref c, .int (nI n)])) :: pt c (.inl (0, cap, .inl f)) :: L) h) (hl : r.length = n) (hn : n ≤ cap) (hcap : cap < 65536) (hf : ∀ i, i < n → f i = nI (r.getD i 0)) : stars (row a cap r :: L) h := by
  subst hl
  refine stars_close (K := [_, _]) k (fun h1 k1 => ⟨c, ⟨f, stars_at _ 0 k1 rfl, stars_at _ 1 k1 rfl, hn, hcap, hf⟩, fun b e1 e2 => ?_⟩)
  obtain ⟨h2, h3, hu, hj, p, q⟩ := k1
  have q1 := stars_one q
  rw [← hu, p, q1, e_un_r (by rw [e_up_n e1]; rfl), e_up_n e2]
  rfl
theorem CA.mk {M : MD} {av : List Value} {L : List sA} {Q : Option Value → List sA → Prop} {fr lo mc ms : Nat} (j : Nat) {ls : List (Option Value)} (hy : plainName M.1.cls = true) (hav : av.all (fun v => v.category == 1) = true) (hn : av.length ≤ M.2.2.1) (hls : av.map some ++ List.replicate j none = ls) (k : ∀ h, stars L h → EE M fr lo mc ms (fun r h' => ∃ L', Q r L' ∧ stars L' h') 0 ls [] h 0 0) : CA M av L Q fr lo mc ms := fun h hL => Ct.mk j hy hav hn hls (k h hL)
set_option maxRecDepth 20000 in
set_option maxHeartbeats 2000000 in
/-- become(other, s, m) -/
theorem k_X4_become {a cap a2 cap2 : Nat} {r r2 : List Nat} {s m : Nat} (hs : s < 100000) (hm : m < 100000) : CA mX4_become [.ref a, .ref a2, .int (nI s), .int (nI m)] [row a cap r, row a2 cap2 r2] (fun x L => x = none ∧ L = [row a cap ((pf r2 s m).take cap), row a2 cap2 r2]) 1 25 0 0 := by
  refine CA.mk 0 (ls := [some (.ref a), some (.ref a2), some (.int (nI s)), some (.int (nI m))]) rfl rfl (Nat.le_of_ble_eq_true rfl) rfl (fun h hL => ?_)
  obtain ⟨c, f, hn, hcap, hf, hL⟩ := row_o hL
  refine e_aload_n 1 dX4_become_0 rfl rfl ?_
  refine e_iconst 2 (v := (nI 0)) dX4_become_1 rfl (by decide) ?_
  refine p_put 5 hL 0 (fs' := [.ref c, .int (nI 0)]) (L' := [pt a (.inr (4, [.ref c, .int (nI 0)])), pt c (.inl (0, cap, .inl f)), row a2 cap2 r2]) rfl rfl dX4_become_2 rfl fp_X4_15_4 (Or.inl rfl) (Nat.le_of_ble_eq_true rfl) rfl rfl rfl (fun h hL => ?_)
  refine e_aload_n 6 dX4_become_5 rfl rfl ?_
  refine e_aload_n 7 dX4_become_6 rfl rfl ?_
  refine e_iload_n 8 dX4_become_7 rfl rfl ?_
  refine e_iload_n 9 dX4_become_8 rfl rfl ?_
  have hL := row_c (r := []) hL rfl (Nat.zero_le _) hcap (fun i hi => absurd hi (Nat.not_lt_zero _))
  refine p_callV 12 hL [0, 1] rfl (L1 := [row a cap [], row a2 cap2 r2]) (L2 := []) rfl row_O 0 rfl dX4_become_9 rfl cv_X4_28 (k_X4_addPart hs hm) rfl rfl (Nat.le_of_ble_eq_true rfl) (by decide) (fun r1 L1 h q hL => ?_)
  obtain ⟨rfl, rfl⟩ := q
  have hL : stars [row a cap (([] ++ pf r2 s m).take cap), row a2 cap2 r2] h := hL
  exact e_vret dX4_become_12 rfl (by omega) (by omega) (⟨_, ⟨rfl, rfl⟩, hL⟩)
set_option maxRecDepth 20000 in
set_option maxHeartbeats 2000000 in
/-- Row(m) -/
theorem k_X4_init {a m : Nat} (hm : m < 65536) : CA mX4_init [.ref a, .int (nI m)] [pt a (.inr (4, [.null, .int 0]))] (fun x L => x = none ∧ L = [row a m []]) 1 20 1 m := by
  refine CA.mk 0 (ls := [some (.ref a), some (.int (nI m))]) rfl rfl (Nat.le_of_ble_eq_true rfl) rfl (fun h hL => ?_)
  refine e_aload_n 1 dX4_init_0 rfl rfl ?_
  refine e_objInit 4 dX4_init_1 rfl oi_X4_3 (by decide) (Nat.le_of_ble_eq_true rfl) ?_
  refine e_aload_n 5 dX4_init_4 rfl rfl ?_
  refine e_iload_n 6 dX4_init_5 rfl rfl ?_
  refine e_if_le 13 9 dX4_init_6 rfl rfl (fun c6 => ?_) (fun c6 => ?_)
  · have k6 := j_le0_t (a := m) (by omega) c6
    obtain rfl : m = 0 := by omega
    refine e_iconst 14 (v := (nI 0)) dX4_init_13 rfl (by decide) ?_
    refine p_newI 16 hL (N := 0) dX4_init_14 rfl (nI_pos (by omega)) (nI_clamp (by omega)) (by omega) (by omega) (by omega) (fun q14 h hL => ?_)
    refine p_put 19 hL 1 (fs' := [.ref q14, .int 0]) (L' := [pt q14 (.inl (0, 0, .inl (fun _ => 0))), pt a (.inr (4, [.ref q14, .int 0]))]) rfl rfl dX4_init_16 rfl fp_X4_9_4 (Or.inr rfl) (Nat.le_of_ble_eq_true rfl) rfl rfl rfl (fun h hL => ?_)
    refine e_aload_n 20 dX4_init_19 rfl rfl ?_
    refine e_iconst 21 (v := (nI 0)) dX4_init_20 rfl (by decide) ?_
    refine p_put 24 hL 1 (fs' := [.ref q14, .int (nI 0)]) (L' := [pt q14 (.inl (0, 0, .inl (fun _ => 0))), pt a (.inr (4, [.ref q14, .int (nI 0)]))]) rfl rfl dX4_init_21 rfl fp_X4_15_4 (Or.inl rfl) (Nat.le_of_ble_eq_true rfl) rfl rfl rfl (fun h hL => ?_)
    exact e_vret dX4_init_24 rfl (by omega) (by omega) (⟨_, ⟨rfl, rfl⟩, row_c (L := []) (stars_ix hL [1, 0] rfl rfl) rfl (Nat.zero_le _) hm (fun i hi => absurd hi (Nat.not_lt_zero _))⟩)
  · have k6 := j_le0_f (a := m) (by omega) c6
    refine e_iload_n 10 dX4_init_9 rfl rfl ?_
    refine e_goto 14 dX4_init_10 rfl ?_
    refine p_newI 16 hL (N := m) dX4_init_14 rfl (nI_pos (by omega)) (nI_clamp (by omega)) (by omega) (by omega) (by omega) (fun q14 h hL => ?_)
    refine p_put 19 hL 1 (fs' := [.ref q14, .int 0]) (L' := [pt q14 (.inl (0, m, .inl (fun _ => 0))), pt a (.inr (4, [.ref q14, .int 0]))]) rfl rfl dX4_init_16 rfl fp_X4_9_4 (Or.inr rfl) (Nat.le_of_ble_eq_true rfl) rfl rfl rfl (fun h hL => ?_)
    refine e_aload_n 20 dX4_init_19 rfl rfl ?_
    refine e_iconst 21 (v := (nI 0)) dX4_init_20 rfl (by decide) ?_
    refine p_put 24 hL 1 (fs' := [.ref q14, .int (nI 0)]) (L' := [pt q14 (.inl (0, m, .inl (fun _ => 0))), pt a (.inr (4, [.ref q14, .int (nI 0)]))]) rfl rfl dX4_init_21 rfl fp_X4_15_4 (Or.inl rfl) (Nat.le_of_ble_eq_true rfl) rfl rfl rfl (fun h hL => ?_)
    exact e_vret dX4_init_24 rfl (by omega) (by omega) (⟨_, ⟨rfl, rfl⟩, row_c (L := []) (stars_ix hL [1, 0] rfl rfl) rfl (Nat.zero_le _) hm (fun i hi => absurd hi (Nat.not_lt_zero _))⟩)
def bgn (r r2 : List Nat) (m : Nat) : Prop := m ≤ r.length ∧ m ≤ r2.length ∧ ∀ i, i < m → r.getD i 0 = r2.getD i 0
