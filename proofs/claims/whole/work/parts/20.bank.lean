/-! Bank: places from one on, of bits or words -/
def bank (b mk fr : Nat) (vs : List Nat) : sA := fun h => ∃ (c : Nat) (f : Nat → Int32), vs.length ≤ 400 ∧ fr < 65536 ∧ (mk = 1 ∨ mk = 65535) ∧ (∀ i, i < vs.length → f i = nI (vs.getD i 0)) ∧ stars [pt b (.inr (0, [.ref c, .int (nI mk), .int (nI fr), .int (nI vs.length)])), pt c (.inl (0, 400, .inl f))] h
theorem bank_O {b mk fr : Nat} {vs : List Nat} : isO (bank b mk fr vs) b 0 := by
  rintro h ⟨c, f, -, -, -, -, k⟩
  exact ⟨_, stars_at _ 0 k rfl⟩
theorem bank_o {b mk fr : Nat} {vs : List Nat} {L : List sA} {h : eH} (k : stars (bank b mk fr vs :: L) h) : ∃ (c : Nat) (f : Nat → Int32), vs.length ≤ 400 ∧ fr < 65536 ∧ (mk = 1 ∨ mk = 65535) ∧ (∀ i, i < vs.length → f i = nI (vs.getD i 0)) ∧ stars (pt b (.inr (0, [.ref c, .int (nI mk), .int (nI fr), .int (nI vs.length)])) :: pt c (.inl (0, 400, .inl f)) :: L) h := by
  obtain ⟨h1, h2, hu, hj, ⟨c, f, p1, p2, p3, p4, k⟩, q⟩ := k
  exact ⟨c, f, p1, p2, p3, p4, (stars_app [_, _] L).mpr ⟨h1, h2, hu, hj, k, q⟩⟩
theorem bank_c {b c mk fr n : Nat} {vs : List Nat} {f : Nat → Int32} {L : List sA} {h : eH} (k : stars (pt b (.inr (0, [.ref c, .int (nI mk), .int (nI fr), .int (nI n)])) :: pt c (.inl (0, 400, .inl f)) :: L) h) (hl : vs.length = n) (h1 : n ≤ 400) (h2 : fr < 65536) (h3 : mk = 1 ∨ mk = 65535) (hf : ∀ i, i < n → f i = nI (vs.getD i 0)) : stars (bank b mk fr vs :: L) h := by
  subst hl
  exact stars_close (K := [_, _]) k (fun h' k' => ⟨c, f, h1, h2, h3, hf, k'⟩)
theorem clampN {x : Int32} (h : ¬ x < 0) : ∃ t : Nat, t < 2 ^ 31 ∧ x = nI t ∧ x.toNatClampNeg = t := by
  obtain ⟨t, h1, rfl⟩ := nI_of h
  exact ⟨t, h1, rfl, nI_clamp h1⟩
theorem nlt_pos {x : Int32} {n : Nat} (hn : n < 2 ^ 31) (h : ¬ x < nI n) : ¬ x < 0 := by
  intro z
  refine h ?_
  rw [Int32.lt_iff_toInt_lt] at z ⊢
  rw [nI_toInt hn]
  have : (0 : Int32).toInt = 0 := rfl
  omega
theorem lt_nI {x : Int32} {n : Nat} (hn : n < 2 ^ 31) (h : x < nI n) : x < 0 ∨ x.toNatClampNeg < n := by
  by_cases z : x < 0
  · exact Or.inl z
  · obtain ⟨t, h1, rfl, h2⟩ := clampN z
    rw [h2]
    exact Or.inr ((nI_ltI h1 hn).mp h)
theorem sub_lt {n k t : Nat} (hn : n < 2 ^ 30) (hk : k < 2 ^ 30) (ht : t < 2 ^ 31) : nI n - nI k < nI t ↔ n < t + k := by
  rw [Int32.lt_iff_toInt_lt, pk_sub_toInt hn hk, nI_toInt ht]
  omega
/-- k places from at' on are there -/
def plI (fr n : Nat) (x : Int32) (k : Nat) : Bool := decide (¬ x < 0 ∧ 0 < k ∧ fr ≤ x.toNatClampNeg ∧ x.toNatClampNeg + k ≤ fr + n)
/-- a place's value -/
def vlI (fr : Nat) (vs : List Nat) (x : Int32) : Int32 := if plI fr vs.length x 1 then nI (vs.getD (x.toNatClampNeg - fr) 0) else -1
/-- v's lowest bits as the mask tells -/
def mv (mk : Nat) (v : Int32) : Nat := v.toBitVec.toNat % (mk + 1)
def wrI (mk fr : Nat) (vs : List Nat) (x v : Int32) : List Nat := if plI fr vs.length x 1 then vs.set (x.toNatClampNeg - fr) (mv mk v) else vs
theorem mv_and {mk : Nat} {v : Int32} (h : mk = 1 ∨ mk = 65535) : v &&& nI mk = nI (mv mk v) := by
  rcases h with rfl | rfl
  · exact pk_and v 1 (by decide)
  · exact pk_and v 16 (by decide)
theorem plI_f {fr n k : Nat} {x : Int32} (h : k = 0 ∨ x < 0 ∨ x.toNatClampNeg < fr ∨ fr + n < x.toNatClampNeg + k) : plI fr n x k = false := by
  unfold plI
  rw [decide_eq_false_iff_not]
  rintro ⟨h1, h2, h3, h4⟩
  rcases h with h | h | h | h
  · omega
  · exact h1 h
  · omega
  · omega
theorem plI_t {fr n k t : Nat} (ht : t < 2 ^ 31) (h1 : 0 < k) (h2 : fr ≤ t) (h3 : t + k ≤ fr + n) : plI fr n (nI t) k = true := by
  unfold plI
  rw [decide_eq_true_eq, nI_clamp ht]
  exact ⟨nI_pos ht, h1, h2, h3⟩
theorem set_f {vs : List Nat} {f : Nat → Int32} {k v : Nat} (hf : ∀ i, i < vs.length → f i = nI (vs.getD i 0)) : ∀ i, i < vs.length → upd f k (nI v) i = nI ((vs.set k v).getD i 0) := by
  intro i hi
  by_cases e : i = k
  · subst e
    rw [pk_us]
    simp [List.getD, hi]
  · rw [pk_un e, hf i hi]
    simp [List.getD, List.getElem?_set_ne (Ne.symm e)]
set_option maxRecDepth 20000 in
set_option maxHeartbeats 2000000 in
/-- Bank(mask) -/
theorem k_X0_init {b mk : Nat} (hmk : mk = 1 ∨ mk = 65535) : CA mX0_init [.ref b, .int (nI mk)] [pt b (.inr (0, [.null, .int 0, .int 0, .int 0]))] (fun x L => x = none ∧ L = [bank b mk 0 []]) 1 20 1 400 := by
  refine CA.mk 0 (ls := [some (.ref b), some (.int (nI mk))]) rfl rfl (Nat.le_of_ble_eq_true rfl) rfl (fun h hL => ?_)
  refine e_aload_n 1 dX0_init_0 rfl rfl ?_
  refine e_objInit 4 dX0_init_1 rfl oi_X0_3 (by decide) (Nat.le_of_ble_eq_true rfl) ?_
  refine e_aload_n 5 dX0_init_4 rfl rfl ?_
  refine e_sipush 8 (v := (nI 400)) dX0_init_5 rfl (by decide) ?_
  refine p_newI 10 hL (N := 400) dX0_init_8 rfl (nI_pos (by omega)) (nI_clamp (by omega)) (by omega) (by omega) (by omega) (fun q8 h hL => ?_)
  refine p_put 13 hL 1 (fs' := [.ref q8, .int 0, .int 0, .int 0]) (L' := [pt q8 (.inl (0, 400, .inl (fun _ => 0))), pt b (.inr (0, [.ref q8, .int 0, .int 0, .int 0]))]) rfl rfl dX0_init_10 rfl fp_X0_9_0 (Or.inr rfl) (Nat.le_of_ble_eq_true rfl) rfl rfl rfl (fun h hL => ?_)
  refine e_aload_n 14 dX0_init_13 rfl rfl ?_
  refine e_iload_n 15 dX0_init_14 rfl rfl ?_
  refine p_put 18 hL 1 (fs' := [.ref q8, .int (nI mk), .int 0, .int 0]) (L' := [pt q8 (.inl (0, 400, .inl (fun _ => 0))), pt b (.inr (0, [.ref q8, .int (nI mk), .int 0, .int 0]))]) rfl rfl dX0_init_15 rfl fp_X0_15_0 (Or.inr rfl) (Nat.le_of_ble_eq_true rfl) rfl rfl rfl (fun h hL => ?_)
  refine e_aload_n 19 dX0_init_18 rfl rfl ?_
  refine e_iconst 20 (v := (nI 0)) dX0_init_19 rfl (by decide) ?_
  refine p_put 23 hL 1 (fs' := [.ref q8, .int (nI mk), .int (nI 0), .int 0]) (L' := [pt q8 (.inl (0, 400, .inl (fun _ => 0))), pt b (.inr (0, [.ref q8, .int (nI mk), .int (nI 0), .int 0]))]) rfl rfl dX0_init_20 rfl fp_X0_19_0 (Or.inl rfl) (Nat.le_of_ble_eq_true rfl) rfl rfl rfl (fun h hL => ?_)
  refine e_aload_n 24 dX0_init_23 rfl rfl ?_
  refine e_iconst 25 (v := (nI 0)) dX0_init_24 rfl (by decide) ?_
  refine p_put 28 hL 1 (fs' := [.ref q8, .int (nI mk), .int (nI 0), .int (nI 0)]) (L' := [pt q8 (.inl (0, 400, .inl (fun _ => 0))), pt b (.inr (0, [.ref q8, .int (nI mk), .int (nI 0), .int (nI 0)]))]) rfl rfl dX0_init_25 rfl fp_X0_22_0 (Or.inl rfl) (Nat.le_of_ble_eq_true rfl) rfl rfl rfl (fun h hL => ?_)
  exact e_vret dX0_init_28 rfl (by omega) (by omega) (⟨_, ⟨rfl, rfl⟩, bank_c (L := []) (vs := []) (stars_ix hL [1, 0] rfl rfl) rfl (by decide) (by decide) hmk (fun i hi => absurd hi (Nat.not_lt_zero _))⟩)
set_option maxRecDepth 20000 in
set_option maxHeartbeats 2000000 in
/-- has(at, k) -/
theorem k_X0_has {b mk fr : Nat} {vs : List Nat} {x : Int32} {k : Nat} (hk : k < 100000) : CA mX0_has [.ref b, .int x, .int (nI k)] [bank b mk fr vs] (fun r L => r = some (.int (bI (plI fr vs.length x k))) ∧ L = [bank b mk fr vs]) 0 0 0 0 := by
  refine CA.mk 0 (ls := [some (.ref b), some (.int x), some (.int (nI k))]) rfl rfl (Nat.le_of_ble_eq_true rfl) rfl (fun h hL => ?_)
  obtain ⟨c, f, hn, hfr, hmk, hf, hL⟩ := bank_o hL
  refine e_iload_n 1 dX0_has_0 rfl rfl ?_
  refine e_if_le 31 4 dX0_has_1 rfl rfl (fun c1 => ?_) (fun c1 => ?_)
  · have k1 := j_le0_t (a := k) (by omega) c1
    refine e_iconst 32 (v := (nI 0)) dX0_has_31 rfl (by decide) ?_
    exact e_zret dX0_has_32 rfl (Or.inl (by decide)) (by omega) (by omega) (⟨_, ⟨by rw [plI_f (by first | exact Or.inl (by omega) | exact Or.inr (k9.elim Or.inl (fun z => Or.inr (Or.inl z))) | exact Or.inr (Or.inr (Or.inr (by rw [hcl]; omega))))]; rfl, rfl⟩, bank_c (L := []) hL rfl hn hfr hmk hf⟩)
  · have k1 := j_le0_f (a := k) (by omega) c1
    refine e_iload_n 5 dX0_has_4 rfl rfl ?_
    refine e_aload_n 6 dX0_has_5 rfl rfl ?_
    refine e_get 9 dX0_has_6 rfl fl_X0_19_0 (stars_at _ 0 hL rfl) rfl ?_
    refine e_icmp_lt 31 12 dX0_has_9 rfl rfl (fun c9 => ?_) (fun c9 => ?_)
    · have k9 := lt_nI (by omega) c9
      refine e_iconst 32 (v := (nI 0)) dX0_has_31 rfl (by decide) ?_
      exact e_zret dX0_has_32 rfl (Or.inl (by decide)) (by omega) (by omega) (⟨_, ⟨by rw [plI_f (by first | exact Or.inl (by omega) | exact Or.inr (k9.elim Or.inl (fun z => Or.inr (Or.inl z))) | exact Or.inr (Or.inr (Or.inr (by rw [hcl]; omega))))]; rfl, rfl⟩, bank_c (L := []) hL rfl hn hfr hmk hf⟩)
    · obtain ⟨t, ht, rfl, hcl⟩ := clampN (nlt_pos (by omega) c9)
      have k9 := j_lt_f (a := t) (b := fr) (by omega) (by omega) c9
      refine e_iload_n 13 dX0_has_12 rfl rfl ?_
      refine e_aload_n 14 dX0_has_13 rfl rfl ?_
      refine e_get 17 dX0_has_14 rfl fl_X0_19_0 (stars_at _ 0 hL rfl) rfl ?_
      refine e_isub 18 (v := (nI (t - fr))) dX0_has_17 rfl (pk_sub (by omega)) ?_
      refine e_aload_n 19 dX0_has_18 rfl rfl ?_
      refine e_get 22 dX0_has_19 rfl fl_X0_22_0 (stars_at _ 0 hL rfl) rfl ?_
      refine e_iload_n 23 dX0_has_22 rfl rfl ?_
      refine e_isub 24 (v := ((nI vs.length) - (nI k))) dX0_has_23 rfl rfl ?_
      refine e_icmp_gt 31 27 dX0_has_24 rfl rfl (fun c24 => ?_) (fun c24 => ?_)
      · have k24 := (sub_lt (by omega) (by omega) (by omega)).mp c24
        refine e_iconst 32 (v := (nI 0)) dX0_has_31 rfl (by decide) ?_
        exact e_zret dX0_has_32 rfl (Or.inl (by decide)) (by omega) (by omega) (⟨_, ⟨by rw [plI_f (by first | exact Or.inl (by omega) | exact Or.inr (k9.elim Or.inl (fun z => Or.inr (Or.inl z))) | exact Or.inr (Or.inr (Or.inr (by rw [hcl]; omega))))]; rfl, rfl⟩, bank_c (L := []) hL rfl hn hfr hmk hf⟩)
      · have k24 : ¬ vs.length < t - fr + k := fun z => c24 ((sub_lt (by omega) (by omega) (by omega)).mpr z)
        refine e_iconst 28 (v := (nI 1)) dX0_has_27 rfl (by decide) ?_
        refine e_goto 32 dX0_has_28 rfl ?_
        exact e_zret dX0_has_32 rfl (Or.inr (by decide)) (by omega) (by omega) (⟨_, ⟨by rw [plI_t ht (by omega) (by omega) (by omega)]; rfl, rfl⟩, bank_c (L := []) hL rfl hn hfr hmk hf⟩)
set_option maxRecDepth 20000 in
set_option maxHeartbeats 2000000 in
/-- value(at) -/
theorem k_X0_value {b mk fr : Nat} {vs : List Nat} {x : Int32} : CA mX0_value [.ref b, .int x] [bank b mk fr vs] (fun r L => r = some (.int (vlI fr vs x)) ∧ L = [bank b mk fr vs]) 0 0 0 0 := by
  refine CA.mk 0 (ls := [some (.ref b), some (.int x)]) rfl rfl (Nat.le_of_ble_eq_true rfl) rfl (fun h hL => ?_)
  obtain ⟨c, f, hn, hfr, hmk, hf, hL⟩ := bank_o hL
  refine e_iload_n 1 dX0_value_0 rfl rfl ?_
  refine e_aload_n 2 dX0_value_1 rfl rfl ?_
  refine e_get 5 dX0_value_2 rfl fl_X0_19_0 (stars_at _ 0 hL rfl) rfl ?_
  refine e_icmp_lt 35 8 dX0_value_5 rfl rfl (fun c5 => ?_) (fun c5 => ?_)
  · have k5 := lt_nI (by omega) c5
    refine e_iconst 36 (v := (-1)) dX0_value_35 rfl (by decide) ?_
    exact e_iret dX0_value_36 rfl (by omega) (by omega) (⟨_, ⟨by rw [vlI, plI_f (by first | exact Or.inr (k5.elim Or.inl (fun z => Or.inr (Or.inl z))) | exact Or.inr (Or.inr (Or.inr (by rw [hcl]; omega))))]; rfl, rfl⟩, bank_c (L := []) hL rfl hn hfr hmk hf⟩)
  · obtain ⟨t, ht, rfl, hcl⟩ := clampN (nlt_pos (by omega) c5)
    have k5 := j_lt_f (a := t) (b := fr) (by omega) (by omega) c5
    refine e_iload_n 9 dX0_value_8 rfl rfl ?_
    refine e_aload_n 10 dX0_value_9 rfl rfl ?_
    refine e_get 13 dX0_value_10 rfl fl_X0_19_0 (stars_at _ 0 hL rfl) rfl ?_
    refine e_isub 14 (v := (nI (t - fr))) dX0_value_13 rfl (pk_sub (by omega)) ?_
    refine e_aload_n 15 dX0_value_14 rfl rfl ?_
    refine e_get 18 dX0_value_15 rfl fl_X0_22_0 (stars_at _ 0 hL rfl) rfl ?_
    refine e_icmp_ge 35 21 dX0_value_18 rfl rfl (fun c18 => ?_) (fun c18 => ?_)
    · have k18 := j_ge_t (a := (t - fr)) (b := vs.length) (by omega) (by omega) c18
      refine e_iconst 36 (v := (-1)) dX0_value_35 rfl (by decide) ?_
      exact e_iret dX0_value_36 rfl (by omega) (by omega) (⟨_, ⟨by rw [vlI, plI_f (by first | exact Or.inr (k5.elim Or.inl (fun z => Or.inr (Or.inl z))) | exact Or.inr (Or.inr (Or.inr (by rw [hcl]; omega))))]; rfl, rfl⟩, bank_c (L := []) hL rfl hn hfr hmk hf⟩)
    · have k18 := j_ge_f (a := (t - fr)) (b := vs.length) (by omega) (by omega) c18
      refine e_aload_n 22 dX0_value_21 rfl rfl ?_
      refine e_get 25 dX0_value_22 rfl fl_X0_9_0 (stars_at _ 0 hL rfl) rfl ?_
      refine e_iload_n 26 dX0_value_25 rfl rfl ?_
      refine e_aload_n 27 dX0_value_26 rfl rfl ?_
      refine e_get 30 dX0_value_27 rfl fl_X0_19_0 (stars_at _ 0 hL rfl) rfl ?_
      refine e_isub 31 (v := (nI (t - fr))) dX0_value_30 rfl (pk_sub (by omega)) ?_
      refine e_iald 32 (v := (nI (vs.getD (t - fr) 0))) dX0_value_31 rfl (stars_at _ 1 hL rfl) (vp_in_nI (by omega) (by omega)) ((congrArg f (nI_clamp (by omega))).trans (hf _ (by omega))) ?_
      refine e_goto 36 dX0_value_32 rfl ?_
      exact e_iret dX0_value_36 rfl (by omega) (by omega) (⟨_, ⟨by rw [vlI, plI_t ht (by omega) (by omega) (by omega), hcl]; rfl, rfl⟩, bank_c (L := []) hL rfl hn hfr hmk hf⟩)
set_option maxRecDepth 20000 in
set_option maxHeartbeats 2000000 in
/-- write(at, v) -/
theorem k_X0_write {b mk fr : Nat} {vs : List Nat} {x v : Int32} : CA mX0_write [.ref b, .int x, .int v] [bank b mk fr vs] (fun r L => r = none ∧ L = [bank b mk fr (wrI mk fr vs x v)]) 0 0 0 0 := by
  refine CA.mk 0 (ls := [some (.ref b), some (.int x), some (.int v)]) rfl rfl (Nat.le_of_ble_eq_true rfl) rfl (fun h hL => ?_)
  obtain ⟨c, f, hn, hfr, hmk, hf, hL⟩ := bank_o hL
  refine e_iload_n 1 dX0_write_0 rfl rfl ?_
  refine e_aload_n 2 dX0_write_1 rfl rfl ?_
  refine e_get 5 dX0_write_2 rfl fl_X0_19_0 (stars_at _ 0 hL rfl) rfl ?_
  refine e_icmp_lt 38 8 dX0_write_5 rfl rfl (fun c5 => ?_) (fun c5 => ?_)
  · have k5 := lt_nI (by omega) c5
    exact e_vret dX0_write_38 rfl (by omega) (by omega) (⟨_, ⟨rfl, rfl⟩, by rw [wrI, plI_f (by first | exact Or.inr (k5.elim Or.inl (fun z => Or.inr (Or.inl z))) | exact Or.inr (Or.inr (Or.inr (by rw [hcl]; omega))))]; exact bank_c (L := []) hL rfl hn hfr hmk hf⟩)
  · obtain ⟨t, ht, rfl, hcl⟩ := clampN (nlt_pos (by omega) c5)
    have k5 := j_lt_f (a := t) (b := fr) (by omega) (by omega) c5
    refine e_iload_n 9 dX0_write_8 rfl rfl ?_
    refine e_aload_n 10 dX0_write_9 rfl rfl ?_
    refine e_get 13 dX0_write_10 rfl fl_X0_19_0 (stars_at _ 0 hL rfl) rfl ?_
    refine e_isub 14 (v := (nI (t - fr))) dX0_write_13 rfl (pk_sub (by omega)) ?_
    refine e_aload_n 15 dX0_write_14 rfl rfl ?_
    refine e_get 18 dX0_write_15 rfl fl_X0_22_0 (stars_at _ 0 hL rfl) rfl ?_
    refine e_icmp_ge 38 21 dX0_write_18 rfl rfl (fun c18 => ?_) (fun c18 => ?_)
    · have k18 := j_ge_t (a := (t - fr)) (b := vs.length) (by omega) (by omega) c18
      exact e_vret dX0_write_38 rfl (by omega) (by omega) (⟨_, ⟨rfl, rfl⟩, by rw [wrI, plI_f (by first | exact Or.inr (k5.elim Or.inl (fun z => Or.inr (Or.inl z))) | exact Or.inr (Or.inr (Or.inr (by rw [hcl]; omega))))]; exact bank_c (L := []) hL rfl hn hfr hmk hf⟩)
    · have k18 := j_ge_f (a := (t - fr)) (b := vs.length) (by omega) (by omega) c18
      refine e_aload_n 22 dX0_write_21 rfl rfl ?_
      refine e_get 25 dX0_write_22 rfl fl_X0_9_0 (stars_at _ 0 hL rfl) rfl ?_
      refine e_iload_n 26 dX0_write_25 rfl rfl ?_
      refine e_aload_n 27 dX0_write_26 rfl rfl ?_
      refine e_get 30 dX0_write_27 rfl fl_X0_19_0 (stars_at _ 0 hL rfl) rfl ?_
      refine e_isub 31 (v := (nI (t - fr))) dX0_write_30 rfl (pk_sub (by omega)) ?_
      refine e_iload_n 32 dX0_write_31 rfl rfl ?_
      refine e_aload_n 33 dX0_write_32 rfl rfl ?_
      refine e_get 36 dX0_write_33 rfl fl_X0_15_0 (stars_at _ 0 hL rfl) rfl ?_
      refine e_iand 37 (v := (nI (mv mk v))) dX0_write_36 rfl (mv_and hmk) ?_
      refine p_iast 38 hL 1 (k := (t - fr)) (L' := [pt b (.inr (0, [.ref c, .int (nI mk), .int (nI fr), .int (nI vs.length)])), pt c (.inl (0, 400, .inl (upd f (t - fr) (nI (mv mk v)))))]) rfl rfl dX0_write_37 rfl (vp_in_nI (by omega) (by omega)) (nI_clamp (by omega)) (fun h hL => ?_)
      exact e_vret dX0_write_38 rfl (by omega) (by omega) (⟨_, ⟨rfl, rfl⟩, by rw [wrI, plI_t ht (by omega) (by omega) (by omega), hcl]; exact bank_c (L := []) hL (by rw [if_pos rfl, List.length_set]) hn hfr hmk (by rw [if_pos rfl]; exact set_f hf)⟩)
set_option maxRecDepth 20000 in
set_option maxHeartbeats 2000000 in
theorem l_X0_makeAnew {b c mk fr m f0 l0 : Nat} (hm : m ≤ 400) (hfr : fr < 65536) (hmk : mk = 1 ∨ mk = 65535) : ∀ (n : Nat) (i : Nat) (f : Nat → Int32) (h : eH), m - i < n → i ≤ m → (∀ j, j < i → f j = 0) → stars [pt b (.inr (0, [.ref c, .int (nI mk), .int (nI fr), .int (nI m)])), pt c (.inl (0, 400, .inl f))] h → EE mX0_makeAnew f0 l0 0 0 (fun x h' => ∃ L', (x = none ∧ L' = [bank b mk fr (List.replicate m 0)]) ∧ stars L' h') 24 [some (.ref b), none, none, some (.int (nI i))] [] h 0 0 := by
  intro n
  induction n with
  | zero => intro i f h hlt hi hz hL; exact absurd hlt (by omega)
  | succ n ih =>
    intro i f h hlt hi hz hL
    refine e_iload_n 25 dX0_makeAnew_24 rfl rfl ?_
    refine e_aload_n 26 dX0_makeAnew_25 rfl rfl ?_
    refine e_get 29 dX0_makeAnew_26 rfl fl_X0_22_0 (stars_at _ 0 hL rfl) rfl ?_
    refine e_icmp_ge 45 32 dX0_makeAnew_29 rfl rfl (fun c29 => ?_) (fun c29 => ?_)
    · have k29 := j_ge_t (a := i) (b := m) (by omega) (by omega) c29
      exact e_vret dX0_makeAnew_45 rfl (by omega) (by omega) (⟨_, ⟨rfl, rfl⟩, bank_c (L := []) hL List.length_replicate hm hfr hmk (fun j hj => by rw [hz j (by omega)]; simp [List.getD, hj]; rfl)⟩)
    · have k29 := j_ge_f (a := i) (b := m) (by omega) (by omega) c29
      refine e_aload_n 33 dX0_makeAnew_32 rfl rfl ?_
      refine e_get 36 dX0_makeAnew_33 rfl fl_X0_9_0 (stars_at _ 0 hL rfl) rfl ?_
      refine e_iload_n 37 dX0_makeAnew_36 rfl rfl ?_
      refine e_iconst 38 (v := (nI 0)) dX0_makeAnew_37 rfl (by decide) ?_
      refine p_iast 39 hL 1 (k := i) (L' := [pt b (.inr (0, [.ref c, .int (nI mk), .int (nI fr), .int (nI m)])), pt c (.inl (0, 400, .inl (upd f i (nI 0))))]) rfl rfl dX0_makeAnew_38 rfl (vp_in_nI (by omega) (by omega)) (nI_clamp (by omega)) (fun h hL => ?_)
      refine e_iinc 42 (v := (nI (i + 1))) (ls' := [some (.ref b), none, none, some (.int (nI (i + 1)))]) dX0_makeAnew_39 rfl rfl (nI_add i 1) (by decide) rfl ?_
      refine e_goto 24 dX0_makeAnew_42 rfl ?_
      exact ih (i + 1) _ h (by omega) (by omega) (upd_zero hz) hL
set_option maxRecDepth 20000 in
set_option maxHeartbeats 2000000 in
/-- makeAnew(from, m) -/
theorem k_X0_makeAnew {b mk fr0 fr m : Nat} {vs : List Nat} (hm : m ≤ 400) (hfr : fr < 65536) : CA mX0_makeAnew [.ref b, .int (nI fr), .int (nI m)] [bank b mk fr0 vs] (fun x L => x = none ∧ L = [bank b mk fr (List.replicate m 0)]) 1 21 0 0 := by
  refine CA.mk 1 (ls := [some (.ref b), some (.int (nI fr)), some (.int (nI m)), none]) rfl rfl (Nat.le_of_ble_eq_true rfl) rfl (fun h hL => ?_)
  obtain ⟨c, f, hn, hfr0, hmk, hf, hL⟩ := bank_o hL
  refine e_aload_n 1 dX0_makeAnew_0 rfl rfl ?_
  refine e_iload_n 2 dX0_makeAnew_1 rfl rfl ?_
  refine p_put 5 hL 0 (fs' := [.ref c, .int (nI mk), .int (nI fr), .int (nI vs.length)]) (L' := [pt b (.inr (0, [.ref c, .int (nI mk), .int (nI fr), .int (nI vs.length)])), pt c (.inl (0, 400, .inl f))]) rfl rfl dX0_makeAnew_2 rfl fp_X0_19_0 (Or.inl rfl) (Nat.le_of_ble_eq_true rfl) rfl rfl rfl (fun h hL => ?_)
  refine e_aload_n 6 dX0_makeAnew_5 rfl rfl ?_
  refine e_iconst 7 (v := (nI 0)) dX0_makeAnew_6 rfl (by decide) ?_
  refine e_iload_n 8 dX0_makeAnew_7 rfl rfl ?_
  refine e_aload_n 9 dX0_makeAnew_8 rfl rfl ?_
  refine e_get 12 dX0_makeAnew_9 rfl fl_X0_9_0 (stars_at _ 0 hL rfl) rfl ?_
  refine e_alen 13 (v := (nI 400)) dX0_makeAnew_12 rfl (stars_at _ 1 hL rfl) rfl rfl ?_
  refine e_min 16 (v := (nI m)) dX0_makeAnew_13 rfl mi_X0_25 (by decide) (Nat.le_of_ble_eq_true rfl) (by omega) (if_neg (nI_nlt (by omega) (by omega))) ?_
  refine e_max 19 (v := (nI m)) dX0_makeAnew_16 rfl ma_X0_31 (by decide) (Nat.le_of_ble_eq_true rfl) (by omega) (max0 (by omega)) ?_
  refine p_put 22 hL 0 (fs' := [.ref c, .int (nI mk), .int (nI fr), .int (nI m)]) (L' := [pt b (.inr (0, [.ref c, .int (nI mk), .int (nI fr), .int (nI m)])), pt c (.inl (0, 400, .inl f))]) rfl rfl dX0_makeAnew_19 rfl fp_X0_22_0 (Or.inl rfl) (Nat.le_of_ble_eq_true rfl) rfl rfl rfl (fun h hL => ?_)
  refine e_iconst 23 (v := (nI 0)) dX0_makeAnew_22 rfl (by decide) ?_
  refine e_istore_n 24 (ls' := [some (.ref b), some (.int (nI fr)), some (.int (nI m)), some (.int (nI 0))]) dX0_makeAnew_23 rfl (by decide) rfl ?_
  refine e_wk [some (.ref b), none, none, some (.int (nI 0))] ⟨rfl, rfl, trivial⟩ ?_
  exact l_X0_makeAnew hm hfr hmk (m + 1) 0 f h (by omega) (by omega) lt_0 hL
/-- bits of places from s on, the first one lowest -/
def bts (vs : List Nat) (s : Nat) : Nat → Nat
  | 0 => 0
  | i + 1 => bts vs s i + if vs.getD (s + i) 0 = 1 then 2 ^ i else 0
theorem bts_lt (vs : List Nat) (s : Nat) : ∀ i, bts vs s i < 2 ^ i
  | 0 => Nat.one_pos
  | i + 1 => by
    have := bts_lt vs s i
    rw [bts, Nat.pow_succ]
    split <;> omega
theorem nx_or (a b : Nat) : nI a ||| nI b = nI (a ||| b) := by
  apply Int32.toBitVec_inj.mp
  simp only [Int32.toBitVec_or, nI, Int32.toBitVec_ofNat]
  apply BitVec.eq_of_toNat_eq
  simp [BitVec.toNat_or, BitVec.toNat_ofNat, Nat.or_mod_two_pow]
theorem or_bit {a i : Nat} (hi : i < 8) (ha : a < 2 ^ i) : nI a ||| (nI 1 <<< (nI i &&& 31)) = nI (a + 2 ^ i) := by
  have e : nI 1 <<< (nI i &&& 31) = nI (2 ^ i) := by
    match i, hi with
    | 0, _ => decide
    | 1, _ => decide
    | 2, _ => decide
    | 3, _ => decide
    | 4, _ => decide
    | 5, _ => decide
    | 6, _ => decide
    | 7, _ => decide
  rw [e, nx_or]
  have := Nat.two_pow_add_eq_or_of_lt ha 1
  rw [Nat.mul_one] at this
  rw [Nat.or_comm, ← this, Nat.add_comm]
set_option maxRecDepth 20000 in
set_option maxHeartbeats 2000000 in
theorem l_X0_bits {b c mk fr m t f0 l0 : Nat} {vs : List Nat} {f : Nat → Int32} (hn : vs.length ≤ 400) (hfr : fr < 65536) (hmk : mk = 1 ∨ mk = 65535) (hf : ∀ i, i < vs.length → f i = nI (vs.getD i 0)) (hb : ∀ x ∈ vs, x < 65536) (hft : fr ≤ t) (ht : t < 200000) (hm : m < 100000) : ∀ (n : Nat) (i : Nat) (h : eH), 8 - i < n → i ≤ m → i ≤ 8 → stars [pt b (.inr (0, [.ref c, .int (nI mk), .int (nI fr), .int (nI vs.length)])), pt c (.inl (0, 400, .inl f))] h → EE mX0_bits f0 l0 0 0 (fun x h' => ∃ L', (x = some (.int (nI (bts vs (t - fr) (min m 8)))) ∧ L' = [bank b mk fr vs]) ∧ stars L' h') 5 [some (.ref b), some (.int (nI t)), some (.int (nI m)), some (.int (nI (bts vs (t - fr) i))), some (.int (nI i)), none] [] h 0 0 := by
  intro n
  induction n with
  | zero => intro i h hlt hi hi8 hL; exact absurd hlt (by omega)
  | succ n ih =>
    intro i h hlt hi hi8 hL
    have hbd := gd_lt (i := t - fr + i) hb (by decide)
    refine e_iload 7 dX0_bits_5 rfl rfl ?_
    refine e_iload_n 8 dX0_bits_7 rfl rfl ?_
    refine e_icmp_ge 67 11 dX0_bits_8 rfl rfl (fun c8 => ?_) (fun c8 => ?_)
    · have k8 := j_ge_t (a := i) (b := m) (by omega) (by omega) c8
      refine e_iload_n 68 dX0_bits_67 rfl rfl ?_
      exact e_iret dX0_bits_68 rfl (by omega) (by omega) (⟨_, ⟨by rw [show min m 8 = i by omega], rfl⟩, bank_c (L := []) hL rfl hn hfr hmk hf⟩)
    · have k8 := j_ge_f (a := i) (b := m) (by omega) (by omega) c8
      refine e_iload 13 dX0_bits_11 rfl rfl ?_
      refine e_bipush 15 (v := (nI 8)) dX0_bits_13 rfl (by decide) ?_
      refine e_icmp_ge 67 18 dX0_bits_15 rfl rfl (fun c15 => ?_) (fun c15 => ?_)
      · have k15 := j_ge_t (a := i) (b := 8) (by omega) (by omega) c15
        refine e_iload_n 68 dX0_bits_67 rfl rfl ?_
        exact e_iret dX0_bits_68 rfl (by omega) (by omega) (⟨_, ⟨by rw [show min m 8 = i by omega], rfl⟩, bank_c (L := []) hL rfl hn hfr hmk hf⟩)
      · have k15 := j_ge_f (a := i) (b := 8) (by omega) (by omega) c15
        refine e_iload_n 19 dX0_bits_18 rfl rfl ?_
        refine e_aload_n 20 dX0_bits_19 rfl rfl ?_
        refine e_get 23 dX0_bits_20 rfl fl_X0_19_0 (stars_at _ 0 hL rfl) rfl ?_
        refine e_isub 24 (v := (nI (t - fr))) dX0_bits_23 rfl (pk_sub (by omega)) ?_
        refine e_iload 26 dX0_bits_24 rfl rfl ?_
        refine e_iadd 27 (v := (nI ((t - fr) + i))) dX0_bits_26 rfl (nI_add (t - fr) i) ?_
        refine e_istore 29 (ls' := [some (.ref b), some (.int (nI t)), some (.int (nI m)), some (.int (nI (bts vs (t - fr) i))), some (.int (nI i)), some (.int (nI ((t - fr) + i)))]) dX0_bits_27 rfl (by decide) rfl ?_
        refine e_iload 31 dX0_bits_29 rfl rfl ?_
        refine e_if_lt 61 34 dX0_bits_31 rfl rfl (fun c31 => absurd c31 (nI_pos (by omega))) (fun c31 => ?_)
        refine e_iload 36 dX0_bits_34 rfl rfl ?_
        refine e_aload_n 37 dX0_bits_36 rfl rfl ?_
        refine e_get 40 dX0_bits_37 rfl fl_X0_22_0 (stars_at _ 0 hL rfl) rfl ?_
        refine e_icmp_ge 61 43 dX0_bits_40 rfl rfl (fun c40 => ?_) (fun c40 => ?_)
        · have k40 := j_ge_t (a := ((t - fr) + i)) (b := vs.length) (by omega) (by omega) c40
          refine e_iinc 64 (v := (nI (i + 1))) (ls' := [some (.ref b), some (.int (nI t)), some (.int (nI m)), some (.int (nI (bts vs (t - fr) i))), some (.int (nI (i + 1))), some (.int (nI ((t - fr) + i)))]) dX0_bits_61 rfl rfl (nI_add i 1) (by decide) rfl ?_
          refine e_goto 5 dX0_bits_64 rfl ?_
          refine e_wk [some (.ref b), some (.int (nI t)), some (.int (nI m)), some (.int (nI (bts vs (t - fr) (i + 1)))), some (.int (nI (i + 1))), none] (by refine ⟨rfl, rfl, rfl, ?_, rfl, trivial⟩; rw [bts]; first | rw [if_neg (by omega), Nat.add_zero] | rw [if_pos (by omega)] | rw [if_neg (by rw [gd_out (by omega)]; decide), Nat.add_zero]) ?_
          exact ih (i + 1) h (by omega) (by omega) (by omega) hL
        · have k40 := j_ge_f (a := ((t - fr) + i)) (b := vs.length) (by omega) (by omega) c40
          refine e_aload_n 44 dX0_bits_43 rfl rfl ?_
          refine e_get 47 dX0_bits_44 rfl fl_X0_9_0 (stars_at _ 0 hL rfl) rfl ?_
          refine e_iload 49 dX0_bits_47 rfl rfl ?_
          refine e_iald 50 (v := (nI (vs.getD ((t - fr) + i) 0))) dX0_bits_49 rfl (stars_at _ 1 hL rfl) (vp_in_nI (by omega) (by omega)) ((congrArg f (nI_clamp (by omega))).trans (hf _ (by omega))) ?_
          refine e_iconst 51 (v := (nI 1)) dX0_bits_50 rfl (by decide) ?_
          refine e_icmp_ne 61 54 dX0_bits_51 rfl rfl (fun c51 => ?_) (fun c51 => ?_)
          · have k51 := j_ne_t (a := (vs.getD ((t - fr) + i) 0)) (b := 1) (by omega) (by omega) c51
            refine e_iinc 64 (v := (nI (i + 1))) (ls' := [some (.ref b), some (.int (nI t)), some (.int (nI m)), some (.int (nI (bts vs (t - fr) i))), some (.int (nI (i + 1))), some (.int (nI ((t - fr) + i)))]) dX0_bits_61 rfl rfl (nI_add i 1) (by decide) rfl ?_
            refine e_goto 5 dX0_bits_64 rfl ?_
            refine e_wk [some (.ref b), some (.int (nI t)), some (.int (nI m)), some (.int (nI (bts vs (t - fr) (i + 1)))), some (.int (nI (i + 1))), none] (by refine ⟨rfl, rfl, rfl, ?_, rfl, trivial⟩; rw [bts]; first | rw [if_neg (by omega), Nat.add_zero] | rw [if_pos (by omega)] | rw [if_neg (by rw [gd_out (by omega)]; decide), Nat.add_zero]) ?_
            exact ih (i + 1) h (by omega) (by omega) (by omega) hL
          · have k51 := j_ne_f (a := (vs.getD ((t - fr) + i) 0)) (b := 1) (by omega) (by omega) c51
            refine e_iload_n 55 dX0_bits_54 rfl rfl ?_
            refine e_iconst 56 (v := (nI 1)) dX0_bits_55 rfl (by decide) ?_
            refine e_iload 58 dX0_bits_56 rfl rfl ?_
            refine e_ishl 59 (v := ((nI 1) <<< ((nI i) &&& 31))) dX0_bits_58 rfl rfl ?_
            refine e_ior 60 (v := (nI (bts vs (t - fr) i + 2 ^ i))) dX0_bits_59 rfl (or_bit (by omega) (bts_lt _ _ _)) ?_
            refine e_istore_n 61 (ls' := [some (.ref b), some (.int (nI t)), some (.int (nI m)), some (.int (nI (bts vs (t - fr) i + 2 ^ i))), some (.int (nI i)), some (.int (nI ((t - fr) + i)))]) dX0_bits_60 rfl (by decide) rfl ?_
            refine e_iinc 64 (v := (nI (i + 1))) (ls' := [some (.ref b), some (.int (nI t)), some (.int (nI m)), some (.int (nI (bts vs (t - fr) i + 2 ^ i))), some (.int (nI (i + 1))), some (.int (nI ((t - fr) + i)))]) dX0_bits_61 rfl rfl (nI_add i 1) (by decide) rfl ?_
            refine e_goto 5 dX0_bits_64 rfl ?_
            refine e_wk [some (.ref b), some (.int (nI t)), some (.int (nI m)), some (.int (nI (bts vs (t - fr) (i + 1)))), some (.int (nI (i + 1))), none] (by refine ⟨rfl, rfl, rfl, ?_, rfl, trivial⟩; rw [bts]; first | rw [if_neg (by omega), Nat.add_zero] | rw [if_pos (by omega)] | rw [if_neg (by rw [gd_out (by omega)]; decide), Nat.add_zero]) ?_
            exact ih (i + 1) h (by omega) (by omega) (by omega) hL
set_option maxRecDepth 20000 in
set_option maxHeartbeats 2000000 in
/-- bits(at, m) -/
theorem k_X0_bits {b mk fr : Nat} {vs : List Nat} {t m : Nat} (hb : ∀ x ∈ vs, x < 65536) (hft : fr ≤ t) (ht : t < 200000) (hm : m < 100000) : CA mX0_bits [.ref b, .int (nI t), .int (nI m)] [bank b mk fr vs] (fun x L => x = some (.int (nI (bts vs (t - fr) (min m 8)))) ∧ L = [bank b mk fr vs]) 0 0 0 0 := by
  refine CA.mk 3 (ls := [some (.ref b), some (.int (nI t)), some (.int (nI m)), none, none, none]) rfl rfl (Nat.le_of_ble_eq_true rfl) rfl (fun h hL => ?_)
  obtain ⟨c, f, hn, hfr, hmk, hf, hL⟩ := bank_o hL
  refine e_iconst 1 (v := (nI 0)) dX0_bits_0 rfl (by decide) ?_
  refine e_istore_n 2 (ls' := [some (.ref b), some (.int (nI t)), some (.int (nI m)), some (.int (nI 0)), none, none]) dX0_bits_1 rfl (by decide) rfl ?_
  refine e_iconst 3 (v := (nI 0)) dX0_bits_2 rfl (by decide) ?_
  refine e_istore 5 (ls' := [some (.ref b), some (.int (nI t)), some (.int (nI m)), some (.int (nI 0)), some (.int (nI 0)), none]) dX0_bits_3 rfl (by decide) rfl ?_
  exact l_X0_bits hn hfr hmk hf hb hft ht hm 9 0 h (by omega) (by omega) (by omega) hL
