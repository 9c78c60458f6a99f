/-! the reference: queues -/
theorem gd_ss {r : List Nat} {k v : Nat} (h : k < r.length) : (r.set k v).getD k 0 = v := by simp [List.getD, h]
theorem que_ok {r : List Nat} {f g : Nat → Int32} {x : Nat} (hl : r.length = 40) (hf : ∀ i, i < r.length → f i = nI (r.getD i 0)) (h1 : ∀ j, j + 1 < 40 → g j = f (j + 1)) : (r.tail ++ [x]).length ≤ 40 ∧ ∀ i, i < (r.tail ++ [x]).length → upd g 39 (nI x) i = nI ((r.tail ++ [x]).getD i 0) := by
  have ht : r.tail.length = 39 := by rw [List.length_tail, hl]
  rw [List.length_append, ht]
  refine ⟨Nat.le_refl 40, fun i hi => ?_⟩
  have hi2 : i < 40 := hi
  by_cases z : i = 39
  · subst z
    rw [pk_us]
    have := gd_last (r := r.tail) (v := x)
    rw [ht] at this
    rw [this]
  · rw [pk_un z, h1 i (by omega), hf (i + 1) (by omega), gd_app (by omega), gd_tail]
theorem cq_close {d i x n : Nat} {s : DS} {A : Nat → Nat} {h : eH} (hi : i < (dS s 1).length) (hn : (lat 40 (rwM (dS s 1) i) x).length = n) (hL : stars [pt d (.inr (10, rdF A s)), iar (A 21) 4 (kys (dS s 1)), iar (A 22) 4 ((szs (dS s 1)).set i n), grd (A 23) 4 40 (upL (rwM (dS s 1)) i (lat 40 (rwM (dS s 1) i) x)), rRq A s] h) : stars [rdv d (quD s i x)] h := by
  rw [← rwM_st hi, ← kys_st (i := i) (r := lat 40 (rwM (dS s 1) i) x), ← hn, ← szs_st] at hL
  exact rdv_cq (M := stM (dS s 1) i (lat 40 (rwM (dS s 1) i) x)) (congrArg (fun n => (rdF A s).set 20 (.int (nI n))) stM_len) hL
set_option maxRecDepth 20000 in
set_option maxHeartbeats 2000000 in
theorem l_X12_comesInto {d i x : Nat} {s : DS} (he : okE s) (hi : i < (dS s 1).length) {A : Nat → Nat} {b23 : Nat} {R23 : sA} {f : Nat → Int32} (hl : (rwM (dS s 1) i).length = 40) (hf : ∀ j, j < (rwM (dS s 1) i).length → f j = nI ((rwM (dS s 1) i).getD j 0)) (hR : ∀ h, R23 h → grP (A 23) 4 i b23 h) (hC : ∀ (r' : List Nat) (K' : List sA) (h' : eH), stars (iar b23 40 r' :: R23 :: K') h' → stars (grd (A 23) 4 40 (upL (rwM (dS s 1)) i r') :: K') h') : ∀ (n : Nat) (j : Nat) (g : Nat → Int32) (h : eH), 40 - j < n → 1 ≤ j → j ≤ 40 → (∀ k, k + 1 < j → g k = f (k + 1)) → (∀ k, j ≤ k + 1 → g k = f k) → stars [pt b23 (.inl (0, 40, .inl g)), R23, pt d (.inr (10, rdF A s)), iar (A 21) 4 (kys (dS s 1)), iar (A 22) 4 (szs (dS s 1)), rRq A s] h → EE mX12_comesInto 0 0 0 0 (fun x9 h' => ∃ K, (x9 = none ∧ K = [rdv d (quD s i x)]) ∧ stars K h') 13 [some (.ref d), some (.int (nI i)), some (.int (nI x)), some (.int (nI j))] [] h 0 0 := by
  intro n
  induction n with
  | zero => intro j g h hlt hj1 hj2 h1 h2 hL; exact absurd hlt (by omega)
  | succ n ih =>
    intro j g h hlt hj1 hj2 h1 h2 hL
    have hsh := (okE_sh he).2.1
    have hs4 := shO_le hsh
    have hrl := (shO_at hsh (by decide) i).2
    refine e_iload_n 14 dX12_comesInto_13 rfl rfl ?_
    refine e_bipush 16 (v := (nI 40)) dX12_comesInto_14 rfl (by decide) ?_
    refine e_icmp_ge 43 19 dX12_comesInto_16 rfl rfl (fun c16 => ?_) (fun c16 => ?_)
    · have k16 := j_ge_t (a := j) (b := 40) (by omega) (by omega) c16
      refine e_aload_n 44 dX12_comesInto_43 rfl rfl ?_
      refine e_get 47 dX12_comesInto_44 rfl fl_X12_47_10 (stars_at _ 2 hL rfl) rfl ?_
      refine e_iload_n 48 dX12_comesInto_47 rfl rfl ?_
      refine e_bipush 50 (v := (nI 39)) dX12_comesInto_48 rfl (by decide) ?_
      refine p_iastR 51 hL 4 (r := (szs (dS s 1))) (r' := ((szs (dS s 1)).set i 39)) (k := i) (v := 39) (L' := [pt b23 (.inl (0, 40, .inl g)), R23, pt d (.inr (10, rdF A s)), iar (A 21) 4 (kys (dS s 1)), iar (A 22) 4 ((szs (dS s 1)).set i 39), rRq A s]) rfl dX12_comesInto_50 rfl (by omega) (by omega) (iw_set (by rw [szs_len]; omega) (by rw [szs_len]; omega)) rfl (fun h hL => ?_)
      refine e_aload_n 52 dX12_comesInto_51 rfl rfl ?_
      refine e_get 55 dX12_comesInto_52 rfl fl_X12_50_10 (stars_at _ 2 hL rfl) rfl ?_
      refine e_iload_n 56 dX12_comesInto_55 rfl rfl ?_
      refine v_aaldP 57 (grP_V _ 1 hL rfl hR) dX12_comesInto_56 rfl (by omega) (by omega) ?_
      refine e_aload_n 58 dX12_comesInto_57 rfl rfl ?_
      refine e_get 61 dX12_comesInto_58 rfl fl_X12_47_10 (stars_at _ 2 hL rfl) rfl ?_
      refine e_iload_n 62 dX12_comesInto_61 rfl rfl ?_
      refine v_iald 63 (iar_V _ 4 hL rfl) (k := i) (x := 39) dX12_comesInto_62 rfl (by rw [List.length_set, szs_len]; omega) (by omega) (gd_ss (by rw [szs_len]; omega)) ?_
      refine e_iload_n 64 dX12_comesInto_63 rfl rfl ?_
      refine p_iast 65 hL 0 (k := 39) (L' := [pt b23 (.inl (0, 40, .inl (upd g 39 (nI x)))), R23, pt d (.inr (10, rdF A s)), iar (A 21) 4 (kys (dS s 1)), iar (A 22) 4 ((szs (dS s 1)).set i 39), rRq A s]) rfl rfl dX12_comesInto_64 rfl (vp_in_nI (by omega) (by omega)) (nI_clamp (by omega)) (fun h hL => ?_)
      refine e_aload_n 66 dX12_comesInto_65 rfl rfl ?_
      refine e_get 69 dX12_comesInto_66 rfl fl_X12_47_10 (stars_at _ 2 hL rfl) rfl ?_
      refine e_iload_n 70 dX12_comesInto_69 rfl rfl ?_
      refine e_dup2 71 dX12_comesInto_70 rfl rfl rfl ?_
      refine v_iald 72 (iar_V _ 4 hL rfl) (k := i) (x := 39) dX12_comesInto_71 rfl (by rw [List.length_set, szs_len]; omega) (by omega) (gd_ss (by rw [szs_len]; omega)) ?_
      refine e_iconst 73 (v := (nI 1)) dX12_comesInto_72 rfl (by decide) ?_
      refine e_iadd 74 (v := (nI (39 + 1))) dX12_comesInto_73 rfl (nI_add 39 1) ?_
      refine p_iastR 75 hL 4 (r := ((szs (dS s 1)).set i 39)) (r' := (((szs (dS s 1)).set i 39).set i (39 + 1))) (k := i) (v := (39 + 1)) (L' := [pt b23 (.inl (0, 40, .inl (upd g 39 (nI x)))), R23, pt d (.inr (10, rdF A s)), iar (A 21) 4 (kys (dS s 1)), iar (A 22) 4 (((szs (dS s 1)).set i 39).set i (39 + 1)), rRq A s]) rfl dX12_comesInto_74 rfl (by omega) (by omega) (iw_set (by rw [List.length_set, szs_len]; omega) (by rw [List.length_set, szs_len]; omega)) rfl (fun h hL => ?_)
      have j40 : j = 40 := by omega
      subst j40
      have hL : stars [iar b23 40 ((rwM (dS s 1) i).tail ++ [x]), R23, pt d (.inr (10, rdF A s)), iar (A 21) 4 (kys (dS s 1)), iar (A 22) 4 (((szs (dS s 1)).set i 39).set i (39 + 1)), rRq A s] h := iar_of (que_ok hl hf (fun j hj => h1 j (by omega))) hL
      rw [List.set_set] at hL
      have hL := hC _ _ _ hL
      have hL := cq_close (x := x) hi (n := 39 + 1) (by rw [lat40f hl, List.length_append, List.length_tail, hl]; rfl) (by rw [lat40f hl]; exact stars_ixn hL 5 rfl [1, 2, 3, 0, 4] (by decide) rfl)
      exact e_vret dX12_comesInto_75 rfl (by omega) (by omega) (⟨_, ⟨rfl, rfl⟩, hL⟩)
    · have k16 := j_ge_f (a := j) (b := 40) (by omega) (by omega) c16
      refine e_aload_n 20 dX12_comesInto_19 rfl rfl ?_
      refine e_get 23 dX12_comesInto_20 rfl fl_X12_50_10 (stars_at _ 2 hL rfl) rfl ?_
      refine e_iload_n 24 dX12_comesInto_23 rfl rfl ?_
      refine v_aaldP 25 (grP_V _ 1 hL rfl hR) dX12_comesInto_24 rfl (by omega) (by omega) ?_
      refine e_iload_n 26 dX12_comesInto_25 rfl rfl ?_
      refine e_iconst 27 (v := (nI 1)) dX12_comesInto_26 rfl (by decide) ?_
      refine e_isub 28 (v := (nI (j - 1))) dX12_comesInto_27 rfl (pk_sub (by omega)) ?_
      refine e_aload_n 29 dX12_comesInto_28 rfl rfl ?_
      refine e_get 32 dX12_comesInto_29 rfl fl_X12_50_10 (stars_at _ 2 hL rfl) rfl ?_
      refine e_iload_n 33 dX12_comesInto_32 rfl rfl ?_
      refine v_aaldP 34 (grP_V _ 1 hL rfl hR) dX12_comesInto_33 rfl (by omega) (by omega) ?_
      refine e_iload_n 35 dX12_comesInto_34 rfl rfl ?_
      refine e_iald 36 (v := (g j)) dX12_comesInto_35 rfl (stars_at _ 0 hL rfl) (vp_in_nI (by omega) (by omega)) (congrArg g (nI_clamp (by omega))) ?_
      refine p_iast 37 hL 0 (k := (j - 1)) (L' := [pt b23 (.inl (0, 40, .inl (upd g (j - 1) (g j)))), R23, pt d (.inr (10, rdF A s)), iar (A 21) 4 (kys (dS s 1)), iar (A 22) 4 (szs (dS s 1)), rRq A s]) rfl rfl dX12_comesInto_36 rfl (vp_in_nI (by omega) (by omega)) (nI_clamp (by omega)) (fun h hL => ?_)
      refine e_iinc 40 (v := (nI (j + 1))) (ls' := [some (.ref d), some (.int (nI i)), some (.int (nI x)), some (.int (nI (j + 1)))]) dX12_comesInto_37 rfl rfl (nI_add j 1) (by decide) rfl ?_
      refine e_goto 13 dX12_comesInto_40 rfl ?_
      have us := shift_step h1 h2 (by omega)
      refine e_wk [some (.ref d), some (.int (nI i)), some (.int (nI x)), some (.int (nI (j + 1)))] ⟨rfl, rfl, rfl, rfl, trivial⟩ ?_
      exact ih (j + 1) _ h (by omega) (by omega) (by omega) us.1 us.2 hL
set_option maxRecDepth 20000 in
set_option maxHeartbeats 2000000 in
theorem k_X12_comesInto {d i x : Nat} {s : DS} (he : okE s) (hi : i < (dS s 1).length) : CA mX12_comesInto [.ref d, .int (nI i), .int (nI x)] [rdv d s] (fun x9 K => x9 = none ∧ K = [rdv d (quD s i x)]) 0 0 0 0 := by
  refine CA.mk 1 (ls := [some (.ref d), some (.int (nI i)), some (.int (nI x)), none]) rfl rfl (Nat.le_of_ble_eq_true rfl) rfl (fun h hL => ?_)
  have hsh := (okE_sh he).2.1
  have hs4 := shO_le hsh
  have hrl := (shO_at hsh (by decide) i).2
  obtain ⟨A, hL⟩ := rdv_oq hL
  have hL : stars [pt d (.inr (10, rdF A s)), iar (A 21) 4 (kys (dS s 1)), iar (A 22) 4 (szs (dS s 1)), grd (A 23) 4 40 (rwM (dS s 1)), rRq A s] h := hL
  have hL : stars [grd (A 23) 4 40 (rwM (dS s 1)), pt d (.inr (10, rdF A s)), iar (A 21) 4 (kys (dS s 1)), iar (A 22) 4 (szs (dS s 1)), rRq A s] h := stars_ixn hL 5 rfl [3, 0, 1, 2, 4] (by decide) rfl
  obtain ⟨b23, R23, hL, hR23, hC23⟩ := grd_at (i := i) (by omega) hL
  have hL : stars [iar b23 40 ((rwM (dS s 1)) i), R23, pt d (.inr (10, rdF A s)), iar (A 21) 4 (kys (dS s 1)), iar (A 22) 4 (szs (dS s 1)), rRq A s] h := hL
  refine e_aload_n 1 dX12_comesInto_0 rfl rfl ?_
  refine e_get 4 dX12_comesInto_1 rfl fl_X12_47_10 (stars_at _ 2 hL rfl) rfl ?_
  refine e_iload_n 5 dX12_comesInto_4 rfl rfl ?_
  refine v_iald 6 (iar_V _ 4 hL rfl) (k := i) (x := (rwM (dS s 1) i).length) dX12_comesInto_5 rfl (by rw [szs_len]; omega) (by omega) szs_at ?_
  refine e_bipush 8 (v := (nI 40)) dX12_comesInto_6 rfl (by decide) ?_
  refine e_icmp_ne 51 11 dX12_comesInto_8 rfl rfl (fun c8 => ?_) (fun c8 => ?_)
  · have k8 := j_ne_t (a := ((rwM (dS s 1) i).length)) (b := 40) (by omega) (by omega) c8
    refine e_aload_n 52 dX12_comesInto_51 rfl rfl ?_
    refine e_get 55 dX12_comesInto_52 rfl fl_X12_50_10 (stars_at _ 2 hL rfl) rfl ?_
    refine e_iload_n 56 dX12_comesInto_55 rfl rfl ?_
    refine v_aaldP 57 (grP_V _ 1 hL rfl hR23) dX12_comesInto_56 rfl (by omega) (by omega) ?_
    refine e_aload_n 58 dX12_comesInto_57 rfl rfl ?_
    refine e_get 61 dX12_comesInto_58 rfl fl_X12_47_10 (stars_at _ 2 hL rfl) rfl ?_
    refine e_iload_n 62 dX12_comesInto_61 rfl rfl ?_
    refine v_iald 63 (iar_V _ 4 hL rfl) (k := i) (x := (rwM (dS s 1) i).length) dX12_comesInto_62 rfl (by rw [szs_len]; omega) (by omega) szs_at ?_
    refine e_iload_n 64 dX12_comesInto_63 rfl rfl ?_
    refine p_iastR 65 hL 0 (r := ((rwM (dS s 1)) i)) (r' := ((rwM (dS s 1) i) ++ [x])) (k := ((rwM (dS s 1) i).length)) (v := x) (L' := [iar b23 40 ((rwM (dS s 1) i) ++ [x]), R23, pt d (.inr (10, rdF A s)), iar (A 21) 4 (kys (dS s 1)), iar (A 22) 4 (szs (dS s 1)), rRq A s]) rfl dX12_comesInto_64 rfl (by omega) (by omega) (iw_app (by omega)) rfl (fun h hL => ?_)
    refine e_aload_n 66 dX12_comesInto_65 rfl rfl ?_
    refine e_get 69 dX12_comesInto_66 rfl fl_X12_47_10 (stars_at _ 2 hL rfl) rfl ?_
    refine e_iload_n 70 dX12_comesInto_69 rfl rfl ?_
    refine e_dup2 71 dX12_comesInto_70 rfl rfl rfl ?_
    refine v_iald 72 (iar_V _ 4 hL rfl) (k := i) (x := (rwM (dS s 1) i).length) dX12_comesInto_71 rfl (by rw [szs_len]; omega) (by omega) szs_at ?_
    refine e_iconst 73 (v := (nI 1)) dX12_comesInto_72 rfl (by decide) ?_
    refine e_iadd 74 (v := (nI (((rwM (dS s 1) i).length) + 1))) dX12_comesInto_73 rfl (nI_add ((rwM (dS s 1) i).length) 1) ?_
    refine p_iastR 75 hL 4 (r := (szs (dS s 1))) (r' := ((szs (dS s 1)).set i ((rwM (dS s 1) i).length + 1))) (k := i) (v := (((rwM (dS s 1) i).length) + 1)) (L' := [iar b23 40 ((rwM (dS s 1) i) ++ [x]), R23, pt d (.inr (10, rdF A s)), iar (A 21) 4 (kys (dS s 1)), iar (A 22) 4 ((szs (dS s 1)).set i ((rwM (dS s 1) i).length + 1)), rRq A s]) rfl dX12_comesInto_74 rfl (by omega) (by omega) (iw_set (by rw [szs_len]; omega) (by rw [szs_len]; omega)) rfl (fun h hL => ?_)
    have hL := hC23 _ _ _ hL
    have hL := cq_close (x := x) hi (n := (rwM (dS s 1) i).length + 1) (by rw [lat40 (by omega), List.length_append]; rfl) (by rw [lat40 (by omega)]; exact stars_ixn hL 5 rfl [1, 2, 3, 0, 4] (by decide) rfl)
    exact e_vret dX12_comesInto_75 rfl (by omega) (by omega) (⟨_, ⟨rfl, rfl⟩, hL⟩)
  · have k8 := j_ne_f (a := ((rwM (dS s 1) i).length)) (b := 40) (by omega) (by omega) c8
    refine e_iconst 12 (v := (nI 1)) dX12_comesInto_11 rfl (by decide) ?_
    refine e_istore_n 13 (ls' := [some (.ref d), some (.int (nI i)), some (.int (nI x)), some (.int (nI 1))]) dX12_comesInto_12 rfl (by decide) rfl ?_
    obtain ⟨f, ⟨hlf, hcf⟩, hL⟩ := iar_raw hL
    have hL : stars [pt b23 (.inl (0, 40, .inl f)), R23, pt d (.inr (10, rdF A s)), iar (A 21) 4 (kys (dS s 1)), iar (A 22) 4 (szs (dS s 1)), rRq A s] h := hL
    exact l_X12_comesInto he hi (by omega) hcf hR23 hC23 _ 1 f h (Nat.lt_succ_self _) (by decide) (by decide) (fun k hk => absurd hk (by omega)) (fun k _ => rfl) hL
