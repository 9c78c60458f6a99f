/-! the reference: harms, frames -/
theorem iar_tk {L L' : List sA} (i k : Nat) {a n : Nat} {r : List Nat} {h : eH} (hL : stars L h) (hi : L[i]? = some (iar a n r)) (hL' : L.set i (iar a n (r.take k)) = L') : stars L' h := by
  obtain ⟨-, -, z⟩ := stars_at_ex L i (ι := Unit) (C := fun _ => True) (P' := fun _ => iar a n (r.take k)) hL hi (fun h8 ⟨f, c, p⟩ => ⟨(), trivial, f, ⟨by rw [List.length_take]; have := c.1; omega, fun j hj => by
    rw [List.length_take] at hj
    rw [c.2 j (by omega)]
    simp [List.getD, List.getElem?_take, show j < k by omega]⟩, p⟩)
  rw [hL'] at z
  exact z
theorem mp1 {hs : List (Nat × Nat)} {i : Nat} : (hs.map (·.1)).getD i 0 = (hs.getD i (0, 0)).1 := by
  simp only [List.getD, List.getElem?_map]
  cases hs[i]? <;> rfl
theorem mp2 {hs : List (Nat × Nat)} {i : Nat} : (hs.map (·.2)).getD i 0 = (hs.getD i (0, 0)).2 := by
  simp only [List.getD, List.getElem?_map]
  cases hs[i]? <;> rfl
theorem ixH_t {hs : List (Nat × Nat)} {k i : Nat} (hi : i < hs.length) (he : (hs.getD i (0, 0)).1 = k) (hn : ∀ j, j < i → (hs.getD j (0, 0)).1 ≠ k) : ixH hs k = some i := by
  rw [ixH, List.findIdx?_eq_some_iff_getElem]
  have g : ∀ j (hj : j < hs.length), hs.getD j (0, 0) = hs[j] := fun j hj => by simp [List.getD, hj]
  refine ⟨hi, by rw [← g i hi, he]; exact beq_self_eq_true k, fun j hj => ?_⟩
  rw [← g j (by omega)]
  simp only [Bool.not_eq_true, beq_eq_false_iff_ne]
  exact hn j hj
theorem ixH_f {hs : List (Nat × Nat)} {k : Nat} (hn : ∀ j, j < hs.length → (hs.getD j (0, 0)).1 ≠ k) : ixH hs k = none := by
  rw [ixH, List.findIdx?_eq_none_iff]
  intro e he
  obtain ⟨j, hj, e2⟩ := List.getElem_of_mem he
  have := hn j hj
  rw [show hs.getD j (0, 0) = hs[j] by simp [List.getD, hj], e2] at this
  simpa using this
theorem gd_hs {hs : List (Nat × Nat)} (hb : ∀ e ∈ hs, e.1 < 2 ^ 30 ∧ e.2 ≤ 340) (i : Nat) : (hs.getD i (0, 0)).1 < 2 ^ 30 ∧ (hs.getD i (0, 0)).2 ≤ 340 := by
  by_cases h : i < hs.length
  · have e : hs.getD i (0, 0) = hs[i] := by simp [List.getD, h]
    rw [e]; exact hb _ (List.getElem_mem h)
  · have e : hs.getD i (0, 0) = (0, 0) := by simp [List.getD, Nat.le_of_not_lt h]
    rw [e]; decide
theorem tk_map {hs : List (Nat × Nat)} {i k : Nat} (hx : ixH hs k = some i) : (tkL hs k).map (·.1) = ((hs.map (·.1)).set i (hs.getD (hs.length - 1) (0, 0)).1).take (hs.length - 1) ∧ (tkL hs k).map (·.2) = ((hs.map (·.2)).set i (hs.getD (hs.length - 1) (0, 0)).2).take (hs.length - 1) ∧ (tkL hs k).length = hs.length - 1 := by
  simp only [tkL, hx]
  refine ⟨by rw [List.map_take, List.map_set], by rw [List.map_take, List.map_set], ?_⟩
  rw [List.length_take, List.length_set]
  omega
set_option maxRecDepth 20000 in
set_option maxHeartbeats 2000000 in
theorem l_X15_takeHarm {m k : Nat} {F w : Nat → Nat} {bg : Bool} {hs : List (Nat × Nat)} (hl : hs.length ≤ 64) (hb : ∀ e ∈ hs, e.1 < 2 ^ 30 ∧ e.2 ≤ 340) (hk : k < 2 ^ 30) : ∀ (n : Nat) (i : Nat) (h : eH), hs.length - i < n → i ≤ hs.length → (∀ j, j < i → (hs.getD j (0, 0)).1 ≠ k) → stars [pt m (.inr (13, moF F (upN w 33 hs.length) bg)), iar (F 31) 64 (hs.map (·.1)), iar (F 32) 64 (hs.map (·.2))] h → EE mX15_takeHarm 0 0 0 0 (fun x9 h' => ∃ K, (x9 = some (.int (nI (tkX hs k))) ∧ K = [rmo m F (upN w 33 (tkL hs k).length) bg, iar (F 31) 64 ((tkL hs k).map (·.1)), iar (F 32) 64 ((tkL hs k).map (·.2))]) ∧ stars K h') 2 [some (.ref m), some (.int (nI k)), some (.int (nI i)), none] [] h 0 0 := by
  intro n
  induction n with
  | zero => intro i h hlt hle hn hL; exact absurd hlt (by omega)
  | succ n ih =>
    intro i h hlt hle hn hL
    refine e_iload_n 3 dX15_takeHarm_2 rfl rfl ?_
    refine e_aload_n 4 dX15_takeHarm_3 rfl rfl ?_
    refine e_get 7 (v := (.int (nI hs.length))) dX15_takeHarm_4 rfl fl_X15_372_13 (stars_at _ 0 hL rfl) rfl ?_
    refine e_icmp_ge 78 10 dX15_takeHarm_7 rfl rfl (fun c7 => ?_) (fun c7 => ?_)
    · have k7 := j_ge_t (a := i) (b := hs.length) (by omega) (by omega) c7
      refine e_iconst 79 (v := (nI 0)) dX15_takeHarm_78 rfl (by decide) ?_
      exact e_iret dX15_takeHarm_79 rfl (by omega) (by omega) (⟨_, ⟨by rw [tkX, ixH_f (fun j hj => hn j (by omega))], rfl⟩, by rw [tkL, ixH_f (fun j hj => hn j (by omega))]; exact hL⟩)
    · have k7 := j_ge_f (a := i) (b := hs.length) (by omega) (by omega) c7
      have hbi := gd_hs hb i
      refine e_aload_n 11 dX15_takeHarm_10 rfl rfl ?_
      refine e_get 14 (v := (.ref (F 31))) dX15_takeHarm_11 rfl fl_X15_60_13 (stars_at _ 0 hL rfl) rfl ?_
      refine e_iload_n 15 dX15_takeHarm_14 rfl rfl ?_
      refine v_iald 16 (r := (hs.map (·.1))) (iar_V _ 1 hL rfl) (k := i) (x := (hs.getD i (0, 0)).1) dX15_takeHarm_15 rfl (by rw [List.length_map]; omega) (by omega) mp1 ?_
      refine e_iload_n 17 dX15_takeHarm_16 rfl rfl ?_
      refine e_icmp_eq 23 20 dX15_takeHarm_17 rfl rfl (fun c17 => ?_) (fun c17 => ?_)
      · have k17 := j_eq_t (a := ((hs.getD i (0, 0)).1)) (b := k) (by omega) (by omega) c17
        have hbl := gd_hs hb (hs.length - 1)
        refine e_aload_n 24 dX15_takeHarm_23 rfl rfl ?_
        refine e_get 27 (v := (.ref (F 32))) dX15_takeHarm_24 rfl fl_X15_63_13 (stars_at _ 0 hL rfl) rfl ?_
        refine e_iload_n 28 dX15_takeHarm_27 rfl rfl ?_
        refine v_iald 29 (r := (hs.map (·.2))) (iar_V _ 2 hL rfl) (k := i) (x := (hs.getD i (0, 0)).2) dX15_takeHarm_28 rfl (by rw [List.length_map]; omega) (by omega) mp2 ?_
        refine e_istore_n 30 (ls' := [some (.ref m), some (.int (nI k)), some (.int (nI i)), some (.int (nI ((hs.getD i (0, 0)).2)))]) dX15_takeHarm_29 rfl (by decide) rfl ?_
        refine e_aload_n 31 dX15_takeHarm_30 rfl rfl ?_
        refine e_dup 32 dX15_takeHarm_31 rfl rfl ?_
        refine e_get 35 (v := (.int (nI hs.length))) dX15_takeHarm_32 rfl fl_X15_372_13 (stars_at _ 0 hL rfl) rfl ?_
        refine e_iconst 36 (v := (nI 1)) dX15_takeHarm_35 rfl (by decide) ?_
        refine e_isub 37 (v := (nI (hs.length - 1))) dX15_takeHarm_36 rfl (pk_sub (by omega)) ?_
        refine p_put 40 hL 0 (fs' := moF F (upN (upN w 33 hs.length) 33 (hs.length - 1)) bg) (L' := [pt m (.inr (13, moF F (upN (upN w 33 hs.length) 33 (hs.length - 1)) bg)), iar (F 31) 64 (hs.map (·.1)), iar (F 32) 64 (hs.map (·.2))]) rfl rfl dX15_takeHarm_37 rfl fp_X15_372_13 (Or.inl rfl) (Nat.le_of_ble_eq_true rfl) rfl rfl rfl (fun h hL => ?_)
        refine e_aload_n 41 dX15_takeHarm_40 rfl rfl ?_
        refine e_get 44 (v := (.ref (F 31))) dX15_takeHarm_41 rfl fl_X15_60_13 (stars_at _ 0 hL rfl) rfl ?_
        refine e_iload_n 45 dX15_takeHarm_44 rfl rfl ?_
        refine e_aload_n 46 dX15_takeHarm_45 rfl rfl ?_
        refine e_get 49 (v := (.ref (F 31))) dX15_takeHarm_46 rfl fl_X15_60_13 (stars_at _ 0 hL rfl) rfl ?_
        refine e_aload_n 50 dX15_takeHarm_49 rfl rfl ?_
        refine e_get 53 (v := (.int (nI (hs.length - 1)))) dX15_takeHarm_50 rfl fl_X15_372_13 (stars_at _ 0 hL rfl) rfl ?_
        refine v_iald 54 (r := (hs.map (·.1))) (iar_V _ 1 hL rfl) (k := (hs.length - 1)) (x := (hs.getD (hs.length - 1) (0, 0)).1) dX15_takeHarm_53 rfl (by rw [List.length_map]; omega) (by omega) mp1 ?_
        refine p_iastR 55 hL 1 (r := (hs.map (·.1))) (r' := ((hs.map (·.1)).set i (hs.getD (hs.length - 1) (0, 0)).1)) (k := i) (v := ((hs.getD (hs.length - 1) (0, 0)).1)) (L' := [pt m (.inr (13, moF F (upN (upN w 33 hs.length) 33 (hs.length - 1)) bg)), iar (F 31) 64 ((hs.map (·.1)).set i (hs.getD (hs.length - 1) (0, 0)).1), iar (F 32) 64 (hs.map (·.2))]) rfl dX15_takeHarm_54 rfl (by omega) (by omega) (iw_set (by rw [List.length_map]; omega) (by rw [List.length_map]; omega)) rfl (fun h hL => ?_)
        refine e_aload_n 56 dX15_takeHarm_55 rfl rfl ?_
        refine e_get 59 (v := (.ref (F 32))) dX15_takeHarm_56 rfl fl_X15_63_13 (stars_at _ 0 hL rfl) rfl ?_
        refine e_iload_n 60 dX15_takeHarm_59 rfl rfl ?_
        refine e_aload_n 61 dX15_takeHarm_60 rfl rfl ?_
        refine e_get 64 (v := (.ref (F 32))) dX15_takeHarm_61 rfl fl_X15_63_13 (stars_at _ 0 hL rfl) rfl ?_
        refine e_aload_n 65 dX15_takeHarm_64 rfl rfl ?_
        refine e_get 68 (v := (.int (nI (hs.length - 1)))) dX15_takeHarm_65 rfl fl_X15_372_13 (stars_at _ 0 hL rfl) rfl ?_
        refine v_iald 69 (r := (hs.map (·.2))) (iar_V _ 2 hL rfl) (k := (hs.length - 1)) (x := (hs.getD (hs.length - 1) (0, 0)).2) dX15_takeHarm_68 rfl (by rw [List.length_map]; omega) (by omega) mp2 ?_
        refine p_iastR 70 hL 2 (r := (hs.map (·.2))) (r' := ((hs.map (·.2)).set i (hs.getD (hs.length - 1) (0, 0)).2)) (k := i) (v := ((hs.getD (hs.length - 1) (0, 0)).2)) (L' := [pt m (.inr (13, moF F (upN (upN w 33 hs.length) 33 (hs.length - 1)) bg)), iar (F 31) 64 ((hs.map (·.1)).set i (hs.getD (hs.length - 1) (0, 0)).1), iar (F 32) 64 ((hs.map (·.2)).set i (hs.getD (hs.length - 1) (0, 0)).2)]) rfl dX15_takeHarm_69 rfl (by omega) (by omega) (iw_set (by rw [List.length_map]; omega) (by rw [List.length_map]; omega)) rfl (fun h hL => ?_)
        have hL : stars [pt m (.inr (13, moF F (upN (upN w 33 hs.length) 33 (hs.length - 1)) bg)), iar (F 31) 64 (((hs.map (·.1)).set i (hs.getD (hs.length - 1) (0, 0)).1).take (hs.length - 1)), iar (F 32) 64 ((hs.map (·.2)).set i (hs.getD (hs.length - 1) (0, 0)).2)] h := iar_tk 1 (hs.length - 1) hL rfl rfl
        have hL : stars [pt m (.inr (13, moF F (upN (upN w 33 hs.length) 33 (hs.length - 1)) bg)), iar (F 31) 64 (((hs.map (·.1)).set i (hs.getD (hs.length - 1) (0, 0)).1).take (hs.length - 1)), iar (F 32) 64 (((hs.map (·.2)).set i (hs.getD (hs.length - 1) (0, 0)).2).take (hs.length - 1))] h := iar_tk 2 (hs.length - 1) hL rfl rfl
        have hx := ixH_t (k := k) (i := i) (by omega) k17 hn
        have tm := tk_map hx
        refine e_iload_n 71 dX15_takeHarm_70 rfl rfl ?_
        exact e_iret dX15_takeHarm_71 rfl (by omega) (by omega) (⟨_, ⟨by rw [tkX, hx], rfl⟩, by rw [tm.1, tm.2.1, tm.2.2]; exact hL⟩)
      · have k17 := j_eq_f (a := ((hs.getD i (0, 0)).1)) (b := k) (by omega) (by omega) c17
        refine e_goto 72 dX15_takeHarm_20 rfl ?_
        refine e_iinc 75 (v := (nI (i + 1))) (ls' := [some (.ref m), some (.int (nI k)), some (.int (nI (i + 1))), none]) dX15_takeHarm_72 rfl rfl (nI_add i 1) (by decide) rfl ?_
        refine e_goto 2 dX15_takeHarm_75 rfl ?_
        refine e_wk [some (.ref m), some (.int (nI k)), some (.int (nI (i + 1))), none] ⟨rfl, rfl, rfl, trivial⟩ ?_
        exact ih (i + 1) h (by omega) (by omega) (fun j hj => (Nat.lt_succ_iff_lt_or_eq.mp hj).elim (hn j) (fun e => by rw [e]; exact k17)) hL
set_option maxRecDepth 20000 in
set_option maxHeartbeats 2000000 in
theorem k_X15_takeHarm {m k : Nat} {F w : Nat → Nat} {bg : Bool} {hs : List (Nat × Nat)} (hl : hs.length ≤ 64) (hb : ∀ e ∈ hs, e.1 < 2 ^ 30 ∧ e.2 ≤ 340) (hk : k < 2 ^ 30) : CA mX15_takeHarm [.ref m, .int (nI k)] [pt m (.inr (13, moF F (upN w 33 hs.length) bg)), iar (F 31) 64 (hs.map (·.1)), iar (F 32) 64 (hs.map (·.2))] (fun x9 K => x9 = some (.int (nI (tkX hs k))) ∧ K = [rmo m F (upN w 33 (tkL hs k).length) bg, iar (F 31) 64 ((tkL hs k).map (·.1)), iar (F 32) 64 ((tkL hs k).map (·.2))]) 0 0 0 0 := by
  refine CA.mk 2 (ls := [some (.ref m), some (.int (nI k)), none, none]) rfl rfl (Nat.le_of_ble_eq_true rfl) rfl (fun h hL => ?_)
  refine e_iconst 1 (v := (nI 0)) dX15_takeHarm_0 rfl (by decide) ?_
  refine e_istore_n 2 (ls' := [some (.ref m), some (.int (nI k)), some (.int (nI 0)), none]) dX15_takeHarm_1 rfl (by decide) rfl ?_
  exact l_X15_takeHarm hl hb hk _ 0 h (Nat.lt_succ_self _) (Nat.zero_le _) (fun j hj => absurd hj (Nat.not_lt_zero j)) hL
set_option maxRecDepth 20000 in
set_option maxHeartbeats 2000000 in
theorem l_X15_sends {m who ad b bn fc : Nat} {F w : Nat → Nat} {bg : Bool} {p : List Nat} (hp : ∀ x ∈ p, x < 256) (hpl : p.length ≤ 253) (had : ad < 256) (hbn : bn < 100000) : ∀ (n : Nat) (i : Nat) (h : eH), p.length - i < n → i ≤ p.length → stars [pt m (.inr (13, moF F (upN (upN w 23 fc) 20 who) bg)), iar (F 21) 260 ([ad] ++ p.take i), iar b bn p] h → EE mX15_sends 1 30 0 0 (fun x9 h' => ∃ K, (x9 = none ∧ K = [rmo m F (upN (upN (upN (upN (upN w 23 fc) 20 who) 22 (p.length + 3)) 24 0) 23 (fc + 1)) false, iar (F 21) 260 (mkF ad p), iar b bn p]) ∧ stars K h') 15 [some (.ref m), some (.int (nI who)), some (.int (nI ad)), some (.ref b), some (.int (nI p.length)), some (.int (nI i))] [] h 0 0 := by
  intro n
  induction n with
  | zero => intro i h hlt hle hL; exact absurd hlt (by omega)
  | succ n ih =>
    intro i h hlt hle hL
    have hle9 := (iar_V _ 2 hL rfl).le
    refine e_iload 17 dX15_sends_15 rfl rfl ?_
    refine e_iload 19 dX15_sends_17 rfl rfl ?_
    refine e_icmp_ge 41 22 dX15_sends_19 rfl rfl (fun c19 => ?_) (fun c19 => ?_)
    · have k19 := j_ge_t (a := i) (b := p.length) (by omega) (by omega) c19
      rw [List.take_of_length_le (by omega)] at hL
      have hap : ∀ x ∈ ad :: p, x < 65536 := fun x hx => by (rcases List.mem_cons.mp hx with e | e; omega; have := hp x e; omega)
      have hL : stars [pt m (.inr (13, moF F (upN (upN w 23 fc) 20 who) bg)), iar (F 21) 260 (ad :: p), iar b bn p] h := hL
      refine e_aload_n 42 dX15_sends_41 rfl rfl ?_
      refine e_get 45 (v := (.ref (F 21))) dX15_sends_42 rfl fl_X15_57_13 (stars_at _ 0 hL rfl) rfl ?_
      refine e_iload 47 dX15_sends_45 rfl rfl ?_
      refine e_iconst 48 (v := (nI 1)) dX15_sends_47 rfl (by decide) ?_
      refine e_iadd 49 (v := (nI (p.length + 1))) dX15_sends_48 rfl (nI_add p.length 1) ?_
      refine u_callS 52 dX15_sends_49 rfl cs_X15_343 (by have z := u_X15_sumOf (m := p.length + 1) (iar_V _ 1 hL rfl) (by simp) hap (by decide); rw [List.take_of_length_le (by simp)] at z; exact z) rfl rfl (Nat.le_of_ble_eq_true rfl) (by decide) ⟨by omega, by omega⟩ ?_
      have hcr := crs_lt hap
      refine e_istore 54 (ls' := [some (.ref m), some (.int (nI who)), some (.int (nI ad)), some (.ref b), some (.int (nI p.length)), some (.int (nI (crs (ad :: p))))]) dX15_sends_52 rfl (by decide) rfl ?_
      refine e_aload_n 55 dX15_sends_54 rfl rfl ?_
      refine e_get 58 (v := (.ref (F 21))) dX15_sends_55 rfl fl_X15_57_13 (stars_at _ 0 hL rfl) rfl ?_
      refine e_iload 60 dX15_sends_58 rfl rfl ?_
      refine e_iconst 61 (v := (nI 1)) dX15_sends_60 rfl (by decide) ?_
      refine e_iadd 62 (v := (nI (p.length + 1))) dX15_sends_61 rfl (nI_add p.length 1) ?_
      refine e_iload 64 dX15_sends_62 rfl rfl ?_
      refine e_sipush 67 (v := (nI 256)) dX15_sends_64 rfl (by decide) ?_
      refine e_irem 68 (v := (nI (crs (ad :: p) % 2 ^ 8))) dX15_sends_67 rfl (by decide) (pk_rem (by omega) (by decide) (by decide)) ?_
      refine p_iastR 69 hL 1 (r := (ad :: p)) (r' := ((ad :: p) ++ [crs (ad :: p) % 2 ^ 8])) (k := (p.length + 1)) (v := (crs (ad :: p) % 2 ^ 8)) (L' := [pt m (.inr (13, moF F (upN (upN w 23 fc) 20 who) bg)), iar (F 21) 260 ((ad :: p) ++ [crs (ad :: p) % 2 ^ 8]), iar b bn p]) rfl dX15_sends_68 rfl (by omega) (by omega) (iw_ap (by simp) (by simp; omega)) rfl (fun h hL => ?_)
      refine e_aload_n 70 dX15_sends_69 rfl rfl ?_
      refine e_get 73 (v := (.ref (F 21))) dX15_sends_70 rfl fl_X15_57_13 (stars_at _ 0 hL rfl) rfl ?_
      refine e_iload 75 dX15_sends_73 rfl rfl ?_
      refine e_iconst 76 (v := (nI 2)) dX15_sends_75 rfl (by decide) ?_
      refine e_iadd 77 (v := (nI (p.length + 2))) dX15_sends_76 rfl (nI_add p.length 2) ?_
      refine e_iload 79 dX15_sends_77 rfl rfl ?_
      refine e_sipush 82 (v := (nI 256)) dX15_sends_79 rfl (by decide) ?_
      refine e_idiv 83 (v := (nI (crs (ad :: p) / 2 ^ 8))) dX15_sends_82 rfl (by decide) (pk_div (by omega) (by decide) (by decide)) ?_
      refine p_iastR 84 hL 1 (r := ((ad :: p) ++ [crs (ad :: p) % 2 ^ 8])) (r' := (((ad :: p) ++ [crs (ad :: p) % 2 ^ 8]) ++ [crs (ad :: p) / 2 ^ 8])) (k := (p.length + 2)) (v := (crs (ad :: p) / 2 ^ 8)) (L' := [pt m (.inr (13, moF F (upN (upN w 23 fc) 20 who) bg)), iar (F 21) 260 (((ad :: p) ++ [crs (ad :: p) % 2 ^ 8]) ++ [crs (ad :: p) / 2 ^ 8]), iar b bn p]) rfl dX15_sends_83 rfl (by omega) (by omega) (iw_ap (by simp) (by simp; omega)) rfl (fun h hL => ?_)
      refine e_aload_n 85 dX15_sends_84 rfl rfl ?_
      refine e_iload 87 dX15_sends_85 rfl rfl ?_
      refine e_iconst 88 (v := (nI 3)) dX15_sends_87 rfl (by decide) ?_
      refine e_iadd 89 (v := (nI (p.length + 3))) dX15_sends_88 rfl (nI_add p.length 3) ?_
      refine p_put 92 hL 0 (fs' := moF F (upN (upN (upN w 23 fc) 20 who) 22 (p.length + 3)) bg) (L' := [pt m (.inr (13, moF F (upN (upN (upN w 23 fc) 20 who) 22 (p.length + 3)) bg)), iar (F 21) 260 (((ad :: p) ++ [crs (ad :: p) % 2 ^ 8]) ++ [crs (ad :: p) / 2 ^ 8]), iar b bn p]) rfl rfl dX15_sends_89 rfl fp_X15_346_13 (Or.inl rfl) (Nat.le_of_ble_eq_true rfl) rfl rfl rfl (fun h hL => ?_)
      refine e_aload_n 93 dX15_sends_92 rfl rfl ?_
      refine e_iconst 94 (v := (nI 0)) dX15_sends_93 rfl (by decide) ?_
      refine p_put 97 hL 0 (fs' := moF F (upN (upN (upN (upN w 23 fc) 20 who) 22 (p.length + 3)) 24 0) bg) (L' := [pt m (.inr (13, moF F (upN (upN (upN (upN w 23 fc) 20 who) 22 (p.length + 3)) 24 0) bg)), iar (F 21) 260 (((ad :: p) ++ [crs (ad :: p) % 2 ^ 8]) ++ [crs (ad :: p) / 2 ^ 8]), iar b bn p]) rfl rfl dX15_sends_94 rfl fp_X15_349_13 (Or.inl rfl) (Nat.le_of_ble_eq_true rfl) rfl rfl rfl (fun h hL => ?_)
      refine e_aload_n 98 dX15_sends_97 rfl rfl ?_
      refine e_iconst 99 (v := (nI 0)) dX15_sends_98 rfl (by decide) ?_
      refine p_put 102 hL 0 (fs' := moF F (upN (upN (upN (upN w 23 fc) 20 who) 22 (p.length + 3)) 24 0) false) (L' := [pt m (.inr (13, moF F (upN (upN (upN (upN w 23 fc) 20 who) 22 (p.length + 3)) 24 0) false)), iar (F 21) 260 (((ad :: p) ++ [crs (ad :: p) % 2 ^ 8]) ++ [crs (ad :: p) / 2 ^ 8]), iar b bn p]) rfl rfl dX15_sends_99 rfl fp_X15_352_13 (Or.inl rfl) (Nat.le_of_ble_eq_true rfl) (by decide) rfl rfl (fun h hL => ?_)
      refine e_aload_n 103 dX15_sends_102 rfl rfl ?_
      refine e_dup 104 dX15_sends_103 rfl rfl ?_
      refine e_get 107 (v := (.int (nI fc))) dX15_sends_104 rfl fl_X15_355_13 (stars_at _ 0 hL rfl) rfl ?_
      refine e_iconst 108 (v := (nI 1)) dX15_sends_107 rfl (by decide) ?_
      refine e_iadd 109 (v := (nI (fc + 1))) dX15_sends_108 rfl (nI_add fc 1) ?_
      refine p_put 112 hL 0 (fs' := moF F (upN (upN (upN (upN (upN w 23 fc) 20 who) 22 (p.length + 3)) 24 0) 23 (fc + 1)) false) (L' := [pt m (.inr (13, moF F (upN (upN (upN (upN (upN w 23 fc) 20 who) 22 (p.length + 3)) 24 0) 23 (fc + 1)) false)), iar (F 21) 260 (((ad :: p) ++ [crs (ad :: p) % 2 ^ 8]) ++ [crs (ad :: p) / 2 ^ 8]), iar b bn p]) rfl rfl dX15_sends_109 rfl fp_X15_355_13 (Or.inl rfl) (Nat.le_of_ble_eq_true rfl) rfl rfl rfl (fun h hL => ?_)
      exact e_vret dX15_sends_112 rfl (by omega) (by omega) (⟨_, ⟨rfl, rfl⟩, hL⟩)
    · have k19 := j_ge_f (a := i) (b := p.length) (by omega) (by omega) c19
      refine e_aload_n 23 dX15_sends_22 rfl rfl ?_
      refine e_get 26 (v := (.ref (F 21))) dX15_sends_23 rfl fl_X15_57_13 (stars_at _ 0 hL rfl) rfl ?_
      refine e_iconst 27 (v := (nI 1)) dX15_sends_26 rfl (by decide) ?_
      refine e_iload 29 dX15_sends_27 rfl rfl ?_
      refine e_iadd 30 (v := (nI (1 + i))) dX15_sends_29 rfl (nI_add 1 i) ?_
      refine e_aload_n 31 dX15_sends_30 rfl rfl ?_
      refine e_iload 33 dX15_sends_31 rfl rfl ?_
      have b33 := gd_lt (i := i) hp (by decide)
      refine v_iald 34 (r := p) (iar_V _ 2 hL rfl) (k := i) (x := (p.getD i 0)) dX15_sends_33 rfl (by omega) (by omega) rfl ?_
      refine p_iastR 35 hL 1 (r := ([ad] ++ p.take i)) (r' := (([ad] ++ p.take i) ++ [(p.getD i 0)])) (k := (1 + i)) (v := (p.getD i 0)) (L' := [pt m (.inr (13, moF F (upN (upN w 23 fc) 20 who) bg)), iar (F 21) 260 (([ad] ++ p.take i) ++ [(p.getD i 0)]), iar b bn p]) rfl dX15_sends_34 rfl (by omega) (by omega) (iw_ap (by simp only [List.length_append, List.length_cons, List.length_nil, List.length_take]; omega) (by simp only [List.length_append, List.length_cons, List.length_nil, List.length_take]; omega)) rfl (fun h hL => ?_)
      refine e_iinc 38 (v := (nI (i + 1))) (ls' := [some (.ref m), some (.int (nI who)), some (.int (nI ad)), some (.ref b), some (.int (nI p.length)), some (.int (nI (i + 1)))]) dX15_sends_35 rfl rfl (nI_add i 1) (by decide) rfl ?_
      refine e_goto 15 dX15_sends_38 rfl ?_
      rw [List.append_assoc, ← take_gd (by omega)] at hL
      have hL : stars [pt m (.inr (13, moF F (upN (upN w 23 fc) 20 who) bg)), iar (F 21) 260 ([ad] ++ p.take (i + 1)), iar b bn p] h := hL
      refine e_wk [some (.ref m), some (.int (nI who)), some (.int (nI ad)), some (.ref b), some (.int (nI p.length)), some (.int (nI (i + 1)))] ⟨rfl, rfl, rfl, rfl, rfl, rfl, trivial⟩ ?_
      exact ih (i + 1) h (by omega) (by omega) hL
set_option maxRecDepth 20000 in
set_option maxHeartbeats 2000000 in
theorem k_X15_sends {m who ad b bn fc : Nat} {F w : Nat → Nat} {bg : Bool} {p : List Nat} (hp : ∀ x ∈ p, x < 256) (hpl : p.length ≤ 253) (had : ad < 256) (hbn : bn < 100000) {fr0 : List Nat} : CA mX15_sends [.ref m, .int (nI who), .int (nI ad), .ref b, .int (nI p.length)] [pt m (.inr (13, moF F (upN w 23 fc) bg)), iar (F 21) 260 fr0, iar b bn p] (fun x9 K => x9 = none ∧ K = [rmo m F (upN (upN (upN (upN (upN w 23 fc) 20 who) 22 (p.length + 3)) 24 0) 23 (fc + 1)) false, iar (F 21) 260 (mkF ad p), iar b bn p]) 1 30 0 0 := by
  refine CA.mk 1 (ls := [some (.ref m), some (.int (nI who)), some (.int (nI ad)), some (.ref b), some (.int (nI p.length)), none]) rfl rfl (Nat.le_of_ble_eq_true rfl) rfl (fun h hL => ?_)
  refine e_aload_n 1 dX15_sends_0 rfl rfl ?_
  refine e_iload_n 2 dX15_sends_1 rfl rfl ?_
  refine p_put 5 hL 0 (fs' := moF F (upN (upN w 23 fc) 20 who) bg) (L' := [pt m (.inr (13, moF F (upN (upN w 23 fc) 20 who) bg)), iar (F 21) 260 fr0, iar b bn p]) rfl rfl dX15_sends_2 rfl fp_X15_340_13 (Or.inl rfl) (Nat.le_of_ble_eq_true rfl) rfl rfl rfl (fun h hL => ?_)
  have hL : stars [pt m (.inr (13, moF F (upN (upN w 23 fc) 20 who) bg)), iar (F 21) 260 ([]), iar b bn p] h := iar_em 1 hL rfl rfl
  refine e_aload_n 6 dX15_sends_5 rfl rfl ?_
  refine e_get 9 (v := (.ref (F 21))) dX15_sends_6 rfl fl_X15_57_13 (stars_at _ 0 hL rfl) rfl ?_
  refine e_iconst 10 (v := (nI 0)) dX15_sends_9 rfl (by decide) ?_
  refine e_iload_n 11 dX15_sends_10 rfl rfl ?_
  refine p_iastR 12 hL 1 (r := []) (r' := ([] ++ [ad])) (k := 0) (v := ad) (L' := [pt m (.inr (13, moF F (upN (upN w 23 fc) 20 who) bg)), iar (F 21) 260 ([] ++ [ad]), iar b bn p]) rfl dX15_sends_11 rfl (by omega) (by omega) (iw_ap rfl (by decide)) rfl (fun h hL => ?_)
  refine e_iconst 13 (v := (nI 0)) dX15_sends_12 rfl (by decide) ?_
  refine e_istore 15 (ls' := [some (.ref m), some (.int (nI who)), some (.int (nI ad)), some (.ref b), some (.int (nI p.length)), some (.int (nI 0))]) dX15_sends_13 rfl (by decide) rfl ?_
  exact l_X15_sends hp hpl had hbn _ 0 h (Nat.lt_succ_self _) (Nat.zero_le _) hL
