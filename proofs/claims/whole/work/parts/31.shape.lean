/-! Shape: how requests must look -/
def inN (v a b : Nat) : Bool := decide (a ≤ v) && decide (v ≤ b)
theorem jin_f0 {v a b : Nat} (h : inN v a b = false) : v < a ∨ b < v := by
  simp only [inN, Bool.and_eq_false_iff, decide_eq_false_iff_not] at h
  omega
theorem jin_t0 {v a b : Nat} (h : inN v a b = true) : a ≤ v ∧ v ≤ b := by
  simpa only [inN, Bool.and_eq_true, decide_eq_true_eq] using h
theorem jin_eq_t {v a b : Nat} (h : bI (inN v a b) = 0) : v < a ∨ b < v := jin_f0 (jb_eq_t h)
theorem jin_eq_f {v a b : Nat} (h : ¬ bI (inN v a b) = 0) : a ≤ v ∧ v ≤ b := jin_t0 (jb_eq_f h)
theorem jin_ne_t {v a b : Nat} (h : ¬ bI (inN v a b) = 0) : a ≤ v ∧ v ≤ b := jin_t0 (jb_eq_f h)
theorem jin_ne_f {v a b : Nat} (h : bI (inN v a b) = 0) : v < a ∨ b < v := jin_f0 (jb_eq_t h)
theorem inN_t {v a b : Nat} (h : a ≤ v ∧ v ≤ b) : inN v a b = true := by simp only [inN, Bool.and_eq_true, decide_eq_true_eq]; exact h
theorem inN_f {v a b : Nat} (h : v < a ∨ b < v) : inN v a b = false := by
  simp only [inN, Bool.and_eq_false_iff, decide_eq_false_iff_not]
  omega
/-- of any numbers -/
def inI (v a b : Int32) : Bool := decide (a ≤ v) && decide (v ≤ b)
set_option maxRecDepth 20000 in
set_option maxHeartbeats 2000000 in
/-- within -/
theorem k_X11_within {v a b : Nat} (hv : v < 2 ^ 31) (ha : a < 2 ^ 31) (hb : b < 2 ^ 31) : CA mX11_within [.int (nI v), .int (nI a), .int (nI b)] [] (fun r L => r = some (.int (bI (inN v a b))) ∧ L = []) 0 0 0 0 := by
  refine CA.mk 0 (ls := [some (.int (nI v)), some (.int (nI a)), some (.int (nI b))]) rfl rfl (Nat.le_of_ble_eq_true rfl) rfl (fun h hL => ?_)
  refine e_iload_n 1 dX11_within_0 rfl rfl ?_
  refine e_iload_n 2 dX11_within_1 rfl rfl ?_
  refine e_icmp_lt 14 5 dX11_within_2 rfl rfl (fun c2 => ?_) (fun c2 => ?_)
  · have k2 := j_lt_t (a := v) (b := a) (by omega) (by omega) c2
    refine e_iconst 15 (v := (nI 0)) dX11_within_14 rfl (by decide) ?_
    exact e_zret dX11_within_15 rfl (Or.inl (by decide)) (by omega) (by omega) (⟨_, ⟨by rw [inN_f (by omega)]; rfl, rfl⟩, hL⟩)
  · have k2 := j_lt_f (a := v) (b := a) (by omega) (by omega) c2
    refine e_iload_n 6 dX11_within_5 rfl rfl ?_
    refine e_iload_n 7 dX11_within_6 rfl rfl ?_
    refine e_icmp_gt 14 10 dX11_within_7 rfl rfl (fun c7 => ?_) (fun c7 => ?_)
    · have k7 := j_gt_t (a := v) (b := b) (by omega) (by omega) c7
      refine e_iconst 15 (v := (nI 0)) dX11_within_14 rfl (by decide) ?_
      exact e_zret dX11_within_15 rfl (Or.inl (by decide)) (by omega) (by omega) (⟨_, ⟨by rw [inN_f (by omega)]; rfl, rfl⟩, hL⟩)
    · have k7 := j_gt_f (a := v) (b := b) (by omega) (by omega) c7
      refine e_iconst 11 (v := (nI 1)) dX11_within_10 rfl (by decide) ?_
      refine e_goto 15 dX11_within_11 rfl ?_
      exact e_zret dX11_within_15 rfl (Or.inr (by decide)) (by omega) (by omega) (⟨_, ⟨by rw [inN_t (by omega)]; rfl, rfl⟩, hL⟩)
set_option maxRecDepth 20000 in
set_option maxHeartbeats 2000000 in
/-- within, of any ints -/
theorem k_X11_withinI {v a b : Int32} : CA mX11_within [.int v, .int a, .int b] [] (fun r L => r = some (.int (bI (inI v a b))) ∧ L = []) 0 0 0 0 := by
  refine CA.mk 0 (ls := [some (.int v), some (.int a), some (.int b)]) rfl rfl (Nat.le_of_ble_eq_true rfl) rfl (fun h hL => ?_)
  refine e_iload_n 1 dX11_within_0 rfl rfl ?_
  refine e_iload_n 2 dX11_within_1 rfl rfl ?_
  refine e_icmp_lt 14 5 dX11_within_2 rfl rfl (fun c2 => ?_) (fun c2 => ?_)
  · refine e_iconst 15 (v := (nI 0)) dX11_within_14 rfl (by decide) ?_
    exact e_zret dX11_within_15 rfl (Or.inl (by decide)) (by omega) (by omega) (⟨_, ⟨by rw [show inI v a b = false by simp only [inI, Bool.and_eq_false_iff, decide_eq_false_iff_not]; first | exact Or.inl (Int32.not_le.mpr c2) | exact Or.inr (Int32.not_le.mpr c7)]; rfl, rfl⟩, hL⟩)
  · refine e_iload_n 6 dX11_within_5 rfl rfl ?_
    refine e_iload_n 7 dX11_within_6 rfl rfl ?_
    refine e_icmp_gt 14 10 dX11_within_7 rfl rfl (fun c7 => ?_) (fun c7 => ?_)
    · refine e_iconst 15 (v := (nI 0)) dX11_within_14 rfl (by decide) ?_
      exact e_zret dX11_within_15 rfl (Or.inl (by decide)) (by omega) (by omega) (⟨_, ⟨by rw [show inI v a b = false by simp only [inI, Bool.and_eq_false_iff, decide_eq_false_iff_not]; first | exact Or.inl (Int32.not_le.mpr c2) | exact Or.inr (Int32.not_le.mpr c7)]; rfl, rfl⟩, hL⟩)
    · refine e_iconst 11 (v := (nI 1)) dX11_within_10 rfl (by decide) ?_
      refine e_goto 15 dX11_within_11 rfl ?_
      exact e_zret dX11_within_15 rfl (Or.inr (by decide)) (by omega) (by omega) (⟨_, ⟨by rw [show inI v a b = true by simp only [inI, Bool.and_eq_true, decide_eq_true_eq]; exact ⟨Int32.not_lt.mp c2, Int32.not_lt.mp c7⟩]; rfl, rfl⟩, hL⟩)
set_option maxRecDepth 20000 in
set_option maxHeartbeats 2000000 in
/-- codeUnless -/
theorem k_X7_codeUnless {b : Bool} : CA mX7_codeUnless [.int (bI b)] [] (fun r L => r = some (.int (nI (if b then 0 else 3))) ∧ L = []) 0 0 0 0 := by
  refine CA.mk 0 (ls := [some (.int (bI b))]) rfl rfl (Nat.le_of_ble_eq_true rfl) rfl (fun h hL => ?_)
  refine e_iload_n 1 dX7_codeUnless_0 rfl rfl ?_
  refine e_if_eq 8 4 dX7_codeUnless_1 rfl rfl (fun c1 => ?_) (fun c1 => ?_)
  · have k1 := jb_eq_t c1
    refine e_iconst 9 (v := (nI 3)) dX7_codeUnless_8 rfl (by decide) ?_
    exact e_iret dX7_codeUnless_9 rfl (by omega) (by omega) (⟨_, ⟨by rw [k1]; rfl, rfl⟩, hL⟩)
  · have k1 := jb_eq_f c1
    refine e_iconst 5 (v := (nI 0)) dX7_codeUnless_4 rfl (by decide) ?_
    refine e_goto 9 dX7_codeUnless_5 rfl ?_
    exact e_iret dX7_codeUnless_9 rfl (by omega) (by omega) (⟨_, ⟨by rw [k1]; rfl, rfl⟩, hL⟩)
def dgF (q : List Nat) : Nat := if q.length < 3 then 3 else if wd q 1 = 0 then 0 else if wd q 1 = 1 ∨ wd q 1 = 2 ∨ wd q 1 = 4 ∨ (10 ≤ wd q 1 ∧ wd q 1 ≤ 18) ∨ wd q 1 = 20 then (if q.length = 5 then 0 else 3) else 1
def txF (q : List Nat) : Nat := if q.length < 2 then 3 else if q.getD 1 0 ≠ 14 then 1 else if q.length = 4 ∧ 1 ≤ q.getD 2 0 ∧ q.getD 2 0 ≤ 4 then 0 else 3
set_option maxRecDepth 20000 in
set_option maxHeartbeats 2000000 in
/-- diagnosisFault(q) -/
theorem k_X7_diagnosisFault {b cb : Nat} {q : List Nat} (hq : ∀ x ∈ q, x < 256) : CA mX7_diagnosisFault [.ref b] [row b cb q] (fun r L => r = some (.int (nI (dgF q))) ∧ L = [row b cb q]) 1 24 0 0 := by
  refine CA.mk 1 (ls := [some (.ref b), none]) rfl rfl (Nat.le_of_ble_eq_true rfl) rfl (fun h hL => ?_)
  have hlen := row_len _ 0 hL rfl
  have w1 := wd_lt (k := 1) hq
  have w3 := wd_lt (k := 3) hq
  have w7 := wd_lt (k := 7) hq
  have g0 := gd_lt (i := 0) hq (by decide)
  have g1 := gd_lt (i := 1) hq (by decide)
  have g2 := gd_lt (i := 2) hq (by decide)
  have g5 := gd_lt (i := 5) hq (by decide)
  have g9 := gd_lt (i := 9) hq (by decide)
  refine e_aload_n 1 dX7_diagnosisFault_0 rfl rfl ?_
  obtain ⟨z1, y1⟩ := row_at _ 0 hL rfl
  refine e_get 4 dX7_diagnosisFault_1 rfl fl_X7_9_4 y1 rfl ?_
  refine e_iconst 5 (v := (nI 3)) dX7_diagnosisFault_4 rfl (by decide) ?_
  refine e_icmp_ge 10 8 dX7_diagnosisFault_5 rfl rfl (fun c5 => ?_) (fun c5 => ?_)
  · have k5 := j_ge_t (a := q.length) (b := 3) (by omega) (by omega) c5
    refine e_aload_n 11 dX7_diagnosisFault_10 rfl rfl ?_
    refine e_iconst 12 (v := (nI 1)) dX7_diagnosisFault_11 rfl (by decide) ?_
    refine p_callV 15 hL [0] 1 rfl (by decide) (L1 := [row b cb q]) (L2 := []) rfl row_O 0 rfl dX7_diagnosisFault_12 rfl cv_X7_19 (k_X4_word (by omega)) rfl rfl (Nat.le_of_ble_eq_true rfl) ⟨by decide, by omega, by omega⟩ (fun r1 L1 h q hL => ?_)
    obtain ⟨rfl, rfl⟩ := q
    have hL : stars [row b cb q] h := hL
    refine e_istore_n 16 (ls' := [some (.ref b), some (.int (nI (wd q 1)))]) dX7_diagnosisFault_15 rfl (by decide) rfl ?_
    refine e_iload_n 17 dX7_diagnosisFault_16 rfl rfl ?_
    refine e_if_ne 22 20 dX7_diagnosisFault_17 rfl rfl (fun c17 => ?_) (fun c17 => ?_)
    · have k17 := j_ne0_t (a := (wd q 1)) (by omega) c17
      refine e_iload_n 23 dX7_diagnosisFault_22 rfl rfl ?_
      refine e_iconst 24 (v := (nI 1)) dX7_diagnosisFault_23 rfl (by decide) ?_
      refine e_icmp_eq 54 27 dX7_diagnosisFault_24 rfl rfl (fun c24 => ?_) (fun c24 => ?_)
      · have k24 := j_eq_t (a := (wd q 1)) (b := 1) (by omega) (by omega) c24
        refine e_aload_n 55 dX7_diagnosisFault_54 rfl rfl ?_
        obtain ⟨z55, y55⟩ := row_at _ 0 hL rfl
        refine e_get 58 dX7_diagnosisFault_55 rfl fl_X7_9_4 y55 rfl ?_
        refine e_iconst 59 (v := (nI 5)) dX7_diagnosisFault_58 rfl (by decide) ?_
        refine e_icmp_ne 66 62 dX7_diagnosisFault_59 rfl rfl (fun c59 => ?_) (fun c59 => ?_)
        · have k59 := j_ne_t (a := q.length) (b := 5) (by omega) (by omega) c59
          refine e_iconst 67 (v := (nI 3)) dX7_diagnosisFault_66 rfl (by decide) ?_
          exact e_iret dX7_diagnosisFault_67 rfl (by omega) (by omega) (⟨_, ⟨by rw [show dgF q = 3 from by unfold dgF; (repeat' split) <;> first | rfl | (exfalso; omega)], rfl⟩, hL⟩)
        · have k59 := j_ne_f (a := q.length) (b := 5) (by omega) (by omega) c59
          refine e_iconst 63 (v := (nI 0)) dX7_diagnosisFault_62 rfl (by decide) ?_
          refine e_goto 67 dX7_diagnosisFault_63 rfl ?_
          exact e_iret dX7_diagnosisFault_67 rfl (by omega) (by omega) (⟨_, ⟨by rw [show dgF q = 0 from by unfold dgF; (repeat' split) <;> first | rfl | (exfalso; omega)], rfl⟩, hL⟩)
      · have k24 := j_eq_f (a := (wd q 1)) (b := 1) (by omega) (by omega) c24
        refine e_iload_n 28 dX7_diagnosisFault_27 rfl rfl ?_
        refine e_iconst 29 (v := (nI 2)) dX7_diagnosisFault_28 rfl (by decide) ?_
        refine e_icmp_eq 54 32 dX7_diagnosisFault_29 rfl rfl (fun c29 => ?_) (fun c29 => ?_)
        · have k29 := j_eq_t (a := (wd q 1)) (b := 2) (by omega) (by omega) c29
          refine e_aload_n 55 dX7_diagnosisFault_54 rfl rfl ?_
          obtain ⟨z55, y55⟩ := row_at _ 0 hL rfl
          refine e_get 58 dX7_diagnosisFault_55 rfl fl_X7_9_4 y55 rfl ?_
          refine e_iconst 59 (v := (nI 5)) dX7_diagnosisFault_58 rfl (by decide) ?_
          refine e_icmp_ne 66 62 dX7_diagnosisFault_59 rfl rfl (fun c59 => ?_) (fun c59 => ?_)
          · have k59 := j_ne_t (a := q.length) (b := 5) (by omega) (by omega) c59
            refine e_iconst 67 (v := (nI 3)) dX7_diagnosisFault_66 rfl (by decide) ?_
            exact e_iret dX7_diagnosisFault_67 rfl (by omega) (by omega) (⟨_, ⟨by rw [show dgF q = 3 from by unfold dgF; (repeat' split) <;> first | rfl | (exfalso; omega)], rfl⟩, hL⟩)
          · have k59 := j_ne_f (a := q.length) (b := 5) (by omega) (by omega) c59
            refine e_iconst 63 (v := (nI 0)) dX7_diagnosisFault_62 rfl (by decide) ?_
            refine e_goto 67 dX7_diagnosisFault_63 rfl ?_
            exact e_iret dX7_diagnosisFault_67 rfl (by omega) (by omega) (⟨_, ⟨by rw [show dgF q = 0 from by unfold dgF; (repeat' split) <;> first | rfl | (exfalso; omega)], rfl⟩, hL⟩)
        · have k29 := j_eq_f (a := (wd q 1)) (b := 2) (by omega) (by omega) c29
          refine e_iload_n 33 dX7_diagnosisFault_32 rfl rfl ?_
          refine e_iconst 34 (v := (nI 4)) dX7_diagnosisFault_33 rfl (by decide) ?_
          refine e_icmp_eq 54 37 dX7_diagnosisFault_34 rfl rfl (fun c34 => ?_) (fun c34 => ?_)
          · have k34 := j_eq_t (a := (wd q 1)) (b := 4) (by omega) (by omega) c34
            refine e_aload_n 55 dX7_diagnosisFault_54 rfl rfl ?_
            obtain ⟨z55, y55⟩ := row_at _ 0 hL rfl
            refine e_get 58 dX7_diagnosisFault_55 rfl fl_X7_9_4 y55 rfl ?_
            refine e_iconst 59 (v := (nI 5)) dX7_diagnosisFault_58 rfl (by decide) ?_
            refine e_icmp_ne 66 62 dX7_diagnosisFault_59 rfl rfl (fun c59 => ?_) (fun c59 => ?_)
            · have k59 := j_ne_t (a := q.length) (b := 5) (by omega) (by omega) c59
              refine e_iconst 67 (v := (nI 3)) dX7_diagnosisFault_66 rfl (by decide) ?_
              exact e_iret dX7_diagnosisFault_67 rfl (by omega) (by omega) (⟨_, ⟨by rw [show dgF q = 3 from by unfold dgF; (repeat' split) <;> first | rfl | (exfalso; omega)], rfl⟩, hL⟩)
            · have k59 := j_ne_f (a := q.length) (b := 5) (by omega) (by omega) c59
              refine e_iconst 63 (v := (nI 0)) dX7_diagnosisFault_62 rfl (by decide) ?_
              refine e_goto 67 dX7_diagnosisFault_63 rfl ?_
              exact e_iret dX7_diagnosisFault_67 rfl (by omega) (by omega) (⟨_, ⟨by rw [show dgF q = 0 from by unfold dgF; (repeat' split) <;> first | rfl | (exfalso; omega)], rfl⟩, hL⟩)
          · have k34 := j_eq_f (a := (wd q 1)) (b := 4) (by omega) (by omega) c34
            refine e_iload_n 38 dX7_diagnosisFault_37 rfl rfl ?_
            refine e_bipush 40 (v := (nI 10)) dX7_diagnosisFault_38 rfl (by decide) ?_
            refine e_bipush 42 (v := (nI 18)) dX7_diagnosisFault_40 rfl (by decide) ?_
            refine p_callS 45 hL [0] 1 rfl (by decide) (L1 := []) (L2 := [row b cb q]) rfl dX7_diagnosisFault_42 rfl cs_X7_22 (k_X11_within (by omega) (by omega) (by omega)) rfl rfl (Nat.le_of_ble_eq_true rfl) ⟨by decide, by omega, by omega⟩ (fun r1 L1 h q hL => ?_)
            obtain ⟨rfl, rfl⟩ := q
            have hL : stars [row b cb q] h := hL
            refine e_if_ne 54 48 dX7_diagnosisFault_45 rfl rfl (fun c45 => ?_) (fun c45 => ?_)
            · have k45 := jin_ne_t c45
              refine e_aload_n 55 dX7_diagnosisFault_54 rfl rfl ?_
              obtain ⟨z55, y55⟩ := row_at _ 0 hL rfl
              refine e_get 58 dX7_diagnosisFault_55 rfl fl_X7_9_4 y55 rfl ?_
              refine e_iconst 59 (v := (nI 5)) dX7_diagnosisFault_58 rfl (by decide) ?_
              refine e_icmp_ne 66 62 dX7_diagnosisFault_59 rfl rfl (fun c59 => ?_) (fun c59 => ?_)
              · have k59 := j_ne_t (a := q.length) (b := 5) (by omega) (by omega) c59
                refine e_iconst 67 (v := (nI 3)) dX7_diagnosisFault_66 rfl (by decide) ?_
                exact e_iret dX7_diagnosisFault_67 rfl (by omega) (by omega) (⟨_, ⟨by rw [show dgF q = 3 from by unfold dgF; (repeat' split) <;> first | rfl | (exfalso; omega)], rfl⟩, hL⟩)
              · have k59 := j_ne_f (a := q.length) (b := 5) (by omega) (by omega) c59
                refine e_iconst 63 (v := (nI 0)) dX7_diagnosisFault_62 rfl (by decide) ?_
                refine e_goto 67 dX7_diagnosisFault_63 rfl ?_
                exact e_iret dX7_diagnosisFault_67 rfl (by omega) (by omega) (⟨_, ⟨by rw [show dgF q = 0 from by unfold dgF; (repeat' split) <;> first | rfl | (exfalso; omega)], rfl⟩, hL⟩)
            · have k45 := jin_ne_f c45
              refine e_iload_n 49 dX7_diagnosisFault_48 rfl rfl ?_
              refine e_bipush 51 (v := (nI 20)) dX7_diagnosisFault_49 rfl (by decide) ?_
              refine e_icmp_ne 68 54 dX7_diagnosisFault_51 rfl rfl (fun c51 => ?_) (fun c51 => ?_)
              · have k51 := j_ne_t (a := (wd q 1)) (b := 20) (by omega) (by omega) c51
                refine e_iconst 69 (v := (nI 1)) dX7_diagnosisFault_68 rfl (by decide) ?_
                exact e_iret dX7_diagnosisFault_69 rfl (by omega) (by omega) (⟨_, ⟨by rw [show dgF q = 1 from by unfold dgF; (repeat' split) <;> first | rfl | (exfalso; omega)], rfl⟩, hL⟩)
              · have k51 := j_ne_f (a := (wd q 1)) (b := 20) (by omega) (by omega) c51
                refine e_aload_n 55 dX7_diagnosisFault_54 rfl rfl ?_
                obtain ⟨z55, y55⟩ := row_at _ 0 hL rfl
                refine e_get 58 dX7_diagnosisFault_55 rfl fl_X7_9_4 y55 rfl ?_
                refine e_iconst 59 (v := (nI 5)) dX7_diagnosisFault_58 rfl (by decide) ?_
                refine e_icmp_ne 66 62 dX7_diagnosisFault_59 rfl rfl (fun c59 => ?_) (fun c59 => ?_)
                · have k59 := j_ne_t (a := q.length) (b := 5) (by omega) (by omega) c59
                  refine e_iconst 67 (v := (nI 3)) dX7_diagnosisFault_66 rfl (by decide) ?_
                  exact e_iret dX7_diagnosisFault_67 rfl (by omega) (by omega) (⟨_, ⟨by rw [show dgF q = 3 from by unfold dgF; (repeat' split) <;> first | rfl | (exfalso; omega)], rfl⟩, hL⟩)
                · have k59 := j_ne_f (a := q.length) (b := 5) (by omega) (by omega) c59
                  refine e_iconst 63 (v := (nI 0)) dX7_diagnosisFault_62 rfl (by decide) ?_
                  refine e_goto 67 dX7_diagnosisFault_63 rfl ?_
                  exact e_iret dX7_diagnosisFault_67 rfl (by omega) (by omega) (⟨_, ⟨by rw [show dgF q = 0 from by unfold dgF; (repeat' split) <;> first | rfl | (exfalso; omega)], rfl⟩, hL⟩)
    · have k17 := j_ne0_f (a := (wd q 1)) (by omega) c17
      refine e_iconst 21 (v := (nI 0)) dX7_diagnosisFault_20 rfl (by decide) ?_
      exact e_iret dX7_diagnosisFault_21 rfl (by omega) (by omega) (⟨_, ⟨by rw [show dgF q = 0 from by unfold dgF; (repeat' split) <;> first | rfl | (exfalso; omega)], rfl⟩, hL⟩)
  · have k5 := j_ge_f (a := q.length) (b := 3) (by omega) (by omega) c5
    refine e_iconst 9 (v := (nI 3)) dX7_diagnosisFault_8 rfl (by decide) ?_
    exact e_iret dX7_diagnosisFault_9 rfl (by omega) (by omega) (⟨_, ⟨by rw [show dgF q = 3 from by unfold dgF; (repeat' split) <;> first | rfl | (exfalso; omega)], rfl⟩, hL⟩)
set_option maxRecDepth 20000 in
set_option maxHeartbeats 2000000 in
/-- textsFault(q) -/
theorem k_X7_textsFault {b cb : Nat} {q : List Nat} (hq : ∀ x ∈ q, x < 256) : CA mX7_textsFault [.ref b] [row b cb q] (fun r L => r = some (.int (nI (txF q))) ∧ L = [row b cb q]) 1 24 0 0 := by
  refine CA.mk 0 (ls := [some (.ref b)]) rfl rfl (Nat.le_of_ble_eq_true rfl) rfl (fun h hL => ?_)
  have hlen := row_len _ 0 hL rfl
  have w1 := wd_lt (k := 1) hq
  have w3 := wd_lt (k := 3) hq
  have w7 := wd_lt (k := 7) hq
  have g0 := gd_lt (i := 0) hq (by decide)
  have g1 := gd_lt (i := 1) hq (by decide)
  have g2 := gd_lt (i := 2) hq (by decide)
  have g5 := gd_lt (i := 5) hq (by decide)
  have g9 := gd_lt (i := 9) hq (by decide)
  refine e_aload_n 1 dX7_textsFault_0 rfl rfl ?_
  obtain ⟨z1, y1⟩ := row_at _ 0 hL rfl
  refine e_get 4 dX7_textsFault_1 rfl fl_X7_9_4 y1 rfl ?_
  refine e_iconst 5 (v := (nI 2)) dX7_textsFault_4 rfl (by decide) ?_
  refine e_icmp_ge 10 8 dX7_textsFault_5 rfl rfl (fun c5 => ?_) (fun c5 => ?_)
  · have k5 := j_ge_t (a := q.length) (b := 2) (by omega) (by omega) c5
    refine e_aload_n 11 dX7_textsFault_10 rfl rfl ?_
    refine e_iconst 12 (v := (nI 1)) dX7_textsFault_11 rfl (by decide) ?_
    refine p_callV 15 hL [0] 1 rfl (by decide) (L1 := [row b cb q]) (L2 := []) rfl row_O 0 rfl dX7_textsFault_12 rfl cv_X7_15 (k_X4_at (by omega)) rfl rfl (Nat.le_of_ble_eq_true rfl) ⟨by decide, by omega, by omega⟩ (fun r1 L1 h q hL => ?_)
    obtain ⟨rfl, rfl⟩ := q
    have hL : stars [row b cb q] h := hL
    refine e_bipush 17 (v := (nI 14)) dX7_textsFault_15 rfl (by decide) ?_
    refine e_icmp_eq 22 20 dX7_textsFault_17 rfl rfl (fun c17 => ?_) (fun c17 => ?_)
    · have k17 := j_eq_t (a := (q.getD 1 0)) (b := 14) (by omega) (by omega) c17
      refine e_aload_n 23 dX7_textsFault_22 rfl rfl ?_
      obtain ⟨z23, y23⟩ := row_at _ 0 hL rfl
      refine e_get 26 dX7_textsFault_23 rfl fl_X7_9_4 y23 rfl ?_
      refine e_iconst 27 (v := (nI 4)) dX7_textsFault_26 rfl (by decide) ?_
      refine e_icmp_ne 47 30 dX7_textsFault_27 rfl rfl (fun c27 => ?_) (fun c27 => ?_)
      · have k27 := j_ne_t (a := q.length) (b := 4) (by omega) (by omega) c27
        refine e_iconst 48 (v := (nI 3)) dX7_textsFault_47 rfl (by decide) ?_
        exact e_iret dX7_textsFault_48 rfl (by omega) (by omega) (⟨_, ⟨by rw [show txF q = 3 from by unfold txF; (repeat' split) <;> first | rfl | (exfalso; omega)], rfl⟩, hL⟩)
      · have k27 := j_ne_f (a := q.length) (b := 4) (by omega) (by omega) c27
        refine e_aload_n 31 dX7_textsFault_30 rfl rfl ?_
        refine e_iconst 32 (v := (nI 2)) dX7_textsFault_31 rfl (by decide) ?_
        refine p_callV 35 hL [0] 1 rfl (by decide) (L1 := [row b cb q]) (L2 := []) rfl row_O 0 rfl dX7_textsFault_32 rfl cv_X7_15 (k_X4_at (by omega)) rfl rfl (Nat.le_of_ble_eq_true rfl) ⟨by decide, by omega, by omega⟩ (fun r1 L1 h q hL => ?_)
        obtain ⟨rfl, rfl⟩ := q
        have hL : stars [row b cb q] h := hL
        refine e_iconst 36 (v := (nI 1)) dX7_textsFault_35 rfl (by decide) ?_
        refine e_iconst 37 (v := (nI 4)) dX7_textsFault_36 rfl (by decide) ?_
        refine p_callS 40 hL [0] 1 rfl (by decide) (L1 := []) (L2 := [row b cb q]) rfl dX7_textsFault_37 rfl cs_X7_22 (k_X11_within (by omega) (by omega) (by omega)) rfl rfl (Nat.le_of_ble_eq_true rfl) ⟨by decide, by omega, by omega⟩ (fun r1 L1 h q hL => ?_)
        obtain ⟨rfl, rfl⟩ := q
        have hL : stars [row b cb q] h := hL
        refine e_if_eq 47 43 dX7_textsFault_40 rfl rfl (fun c40 => ?_) (fun c40 => ?_)
        · have k40 := jin_eq_t c40
          refine e_iconst 48 (v := (nI 3)) dX7_textsFault_47 rfl (by decide) ?_
          exact e_iret dX7_textsFault_48 rfl (by omega) (by omega) (⟨_, ⟨by rw [show txF q = 3 from by unfold txF; (repeat' split) <;> first | rfl | (exfalso; omega)], rfl⟩, hL⟩)
        · have k40 := jin_eq_f c40
          refine e_iconst 44 (v := (nI 0)) dX7_textsFault_43 rfl (by decide) ?_
          refine e_goto 48 dX7_textsFault_44 rfl ?_
          exact e_iret dX7_textsFault_48 rfl (by omega) (by omega) (⟨_, ⟨by rw [show txF q = 0 from by unfold txF; (repeat' split) <;> first | rfl | (exfalso; omega)], rfl⟩, hL⟩)
    · have k17 := j_eq_f (a := (q.getD 1 0)) (b := 14) (by omega) (by omega) c17
      refine e_iconst 21 (v := (nI 1)) dX7_textsFault_20 rfl (by decide) ?_
      exact e_iret dX7_textsFault_21 rfl (by omega) (by omega) (⟨_, ⟨by rw [show txF q = 1 from by unfold txF; (repeat' split) <;> first | rfl | (exfalso; omega)], rfl⟩, hL⟩)
  · have k5 := j_ge_f (a := q.length) (b := 2) (by omega) (by omega) c5
    refine e_iconst 9 (v := (nI 3)) dX7_textsFault_8 rfl (by decide) ?_
    exact e_iret dX7_textsFault_9 rfl (by omega) (by omega) (⟨_, ⟨by rw [show txF q = 3 from by unfold txF; (repeat' split) <;> first | rfl | (exfalso; omega)], rfl⟩, hL⟩)
def rdS (q : List Nat) : Nat → Nat
  | 0 => 2
  | j + 1 => rdS q j + (2 + 2 * wd q (2 + 7 * j + 5))
theorem rdS_lt {q : List Nat} (hq : ∀ x ∈ q, x < 256) : ∀ j, rdS q j ≤ 2 + 200000 * j
  | 0 => Nat.le_refl 2
  | j + 1 => by
    have h1 := rdS_lt hq j
    have h2 := wd_lt (k := 2 + 7 * j + 5) hq
    rw [rdS]
    omega
def rdP (q : List Nat) : Bool := decide (2 ≤ q.length ∧ 7 ≤ q.getD 1 0 ∧ q.getD 1 0 ≤ 245 ∧ q.getD 1 0 % 7 = 0 ∧ q.length - 2 = q.getD 1 0 ∧ rdS q (q.getD 1 0 / 7) ≤ 253)
set_option maxRecDepth 20000 in
set_option maxHeartbeats 2000000 in
theorem l_X7_areReadParts {b cb : Nat} {q : List Nat} (hq : ∀ x ∈ q, x < 256) (h2 : 2 ≤ q.length) (h7 : 7 ≤ q.getD 1 0 ∧ q.getD 1 0 ≤ 245) (hm : q.getD 1 0 % 7 = 0) (hl : q.length - 2 = q.getD 1 0) : ∀ (n : Nat) (j : Nat) (h : eH), q.length - 7 * j < n → 2 + 7 * j ≤ q.length → stars [row b cb q] h → EE mX7_areReadParts 1 24 0 0 (fun r h' => ∃ L', (r = some (.int (bI (rdP q))) ∧ L' = [row b cb q]) ∧ stars L' h') 49 [some (.ref b), some (.int (nI (q.getD 1 0))), some (.int (nI (rdS q j))), some (.int (nI (2 + 7 * j)))] [] h 0 0 := by
  intro n
  induction n with
  | zero => intro j h hlt hi hL; exact absurd hlt (by omega)
  | succ n ih =>
    intro j h hlt hi hL
    have hrd := rdS_lt hq j
    have hwj := wd_lt (k := 2 + 7 * j + 5) hq
    refine e_iload_n 50 dX7_areReadParts_49 rfl rfl ?_
    refine e_bipush 52 (v := (nI 7)) dX7_areReadParts_50 rfl (by decide) ?_
    refine e_iadd 53 (v := (nI ((2 + 7 * j) + 7))) dX7_areReadParts_52 rfl (nI_add (2 + 7 * j) 7) ?_
    refine e_aload_n 54 dX7_areReadParts_53 rfl rfl ?_
    obtain ⟨z54, y54⟩ := row_at _ 0 hL rfl
    refine e_get 57 dX7_areReadParts_54 rfl fl_X7_9_4 y54 rfl ?_
    refine e_icmp_gt 80 60 dX7_areReadParts_57 rfl rfl (fun c57 => ?_) (fun c57 => ?_)
    · have k57 := j_gt_t (a := ((2 + 7 * j) + 7)) (b := q.length) (by omega) (by omega) c57
      refine e_iload_n 81 dX7_areReadParts_80 rfl rfl ?_
      refine e_sipush 84 (v := (nI 253)) dX7_areReadParts_81 rfl (by decide) ?_
      refine e_icmp_gt 91 87 dX7_areReadParts_84 rfl rfl (fun c84 => ?_) (fun c84 => ?_)
      · have k84 := j_gt_t (a := (rdS q j)) (b := 253) (by omega) (by omega) c84
        refine e_iconst 92 (v := (nI 0)) dX7_areReadParts_91 rfl (by decide) ?_
        exact e_zret dX7_areReadParts_92 rfl (Or.inl (by decide)) (by omega) (by omega) (⟨_, ⟨by rw [show rdP q = false by unfold rdP; rw [show q.getD 1 0 / 7 = j by omega]; (try simp only [Bool.and_eq_true, Bool.or_eq_true, Bool.not_eq_true', Bool.and_eq_false_iff, Bool.or_eq_false_iff, Bool.not_eq_false', decide_eq_true_eq, decide_eq_false_iff_not, Bool.false_or, Bool.true_or, Bool.or_false, Bool.or_true, Bool.not_false, Bool.not_true, Bool.true_and, Bool.false_and, Bool.and_true, Bool.and_false, reduceCtorEq]) <;> (try omega)]; rfl, rfl⟩, hL⟩)
      · have k84 := j_gt_f (a := (rdS q j)) (b := 253) (by omega) (by omega) c84
        refine e_iconst 88 (v := (nI 1)) dX7_areReadParts_87 rfl (by decide) ?_
        refine e_goto 92 dX7_areReadParts_88 rfl ?_
        exact e_zret dX7_areReadParts_92 rfl (Or.inr (by decide)) (by omega) (by omega) (⟨_, ⟨by rw [show rdP q = true by unfold rdP; rw [show q.getD 1 0 / 7 = j by omega]; (try simp only [Bool.and_eq_true, Bool.or_eq_true, Bool.not_eq_true', Bool.and_eq_false_iff, Bool.or_eq_false_iff, Bool.not_eq_false', decide_eq_true_eq, decide_eq_false_iff_not, Bool.false_or, Bool.true_or, Bool.or_false, Bool.or_true, Bool.not_false, Bool.not_true, Bool.true_and, Bool.false_and, Bool.and_true, Bool.and_false, reduceCtorEq]) <;> (try omega)]; rfl, rfl⟩, hL⟩)
    · have k57 := j_gt_f (a := ((2 + 7 * j) + 7)) (b := q.length) (by omega) (by omega) c57
      refine e_iload_n 61 dX7_areReadParts_60 rfl rfl ?_
      refine e_iconst 62 (v := (nI 2)) dX7_areReadParts_61 rfl (by decide) ?_
      refine e_iconst 63 (v := (nI 2)) dX7_areReadParts_62 rfl (by decide) ?_
      refine e_aload_n 64 dX7_areReadParts_63 rfl rfl ?_
      refine e_iload_n 65 dX7_areReadParts_64 rfl rfl ?_
      refine e_iconst 66 (v := (nI 5)) dX7_areReadParts_65 rfl (by decide) ?_
      refine e_iadd 67 (v := (nI ((2 + 7 * j) + 5))) dX7_areReadParts_66 rfl (nI_add (2 + 7 * j) 5) ?_
      refine p_callV 70 hL [0] 1 rfl (by decide) (L1 := [row b cb q]) (L2 := []) rfl row_O 0 rfl dX7_areReadParts_67 rfl cv_X7_19 (k_X4_word (by omega)) rfl rfl (Nat.le_of_ble_eq_true rfl) ⟨by decide, by omega, by omega⟩ (fun r1 L1 h q hL => ?_)
      obtain ⟨rfl, rfl⟩ := q
      have hL : stars [row b cb q] h := hL
      refine e_imul 71 (v := (nI (2 * (wd q ((2 + 7 * j) + 5))))) dX7_areReadParts_70 rfl (pk_mul 2 (wd q ((2 + 7 * j) + 5))) ?_
      refine e_iadd 72 (v := (nI (2 + (2 * (wd q ((2 + 7 * j) + 5)))))) dX7_areReadParts_71 rfl (nI_add 2 (2 * (wd q ((2 + 7 * j) + 5)))) ?_
      refine e_iadd 73 (v := (nI ((rdS q j) + (2 + (2 * (wd q ((2 + 7 * j) + 5))))))) dX7_areReadParts_72 rfl (nI_add (rdS q j) (2 + (2 * (wd q ((2 + 7 * j) + 5))))) ?_
      refine e_istore_n 74 (ls' := [some (.ref b), some (.int (nI (q.getD 1 0))), some (.int (nI ((rdS q j) + (2 + (2 * (wd q ((2 + 7 * j) + 5))))))), some (.int (nI (2 + 7 * j)))]) dX7_areReadParts_73 rfl (by decide) rfl ?_
      refine e_iinc 77 (v := (nI ((2 + 7 * j) + 7))) (ls' := [some (.ref b), some (.int (nI (q.getD 1 0))), some (.int (nI ((rdS q j) + (2 + (2 * (wd q ((2 + 7 * j) + 5))))))), some (.int (nI ((2 + 7 * j) + 7)))]) dX7_areReadParts_74 rfl rfl (nI_add (2 + 7 * j) 7) (by decide) rfl ?_
      refine e_goto 49 dX7_areReadParts_77 rfl ?_
      refine e_wk [some (.ref b), some (.int (nI (q.getD 1 0))), some (.int (nI (rdS q (j + 1)))), some (.int (nI (2 + 7 * (j + 1))))] ⟨rfl, rfl, by rw [rdS], by rw [show 2 + 7 * (j + 1) = 2 + 7 * j + 7 by omega], trivial⟩ ?_
      exact ih (j + 1) h (by omega) (by omega) hL
set_option maxRecDepth 20000 in
set_option maxHeartbeats 2000000 in
/-- areReadParts(q) -/
theorem k_X7_areReadParts {b cb : Nat} {q : List Nat} (hq : ∀ x ∈ q, x < 256) : CA mX7_areReadParts [.ref b] [row b cb q] (fun r L => r = some (.int (bI (rdP q))) ∧ L = [row b cb q]) 1 24 0 0 := by
  refine CA.mk 3 (ls := [some (.ref b), none, none, none]) rfl rfl (Nat.le_of_ble_eq_true rfl) rfl (fun h hL => ?_)
  have hlen := row_len _ 0 hL rfl
  have w1 := wd_lt (k := 1) hq
  have w3 := wd_lt (k := 3) hq
  have w7 := wd_lt (k := 7) hq
  have g0 := gd_lt (i := 0) hq (by decide)
  have g1 := gd_lt (i := 1) hq (by decide)
  have g2 := gd_lt (i := 2) hq (by decide)
  have g5 := gd_lt (i := 5) hq (by decide)
  have g9 := gd_lt (i := 9) hq (by decide)
  refine e_aload_n 1 dX7_areReadParts_0 rfl rfl ?_
  refine e_iconst 2 (v := (nI 1)) dX7_areReadParts_1 rfl (by decide) ?_
  refine p_callV 5 hL [0] 1 rfl (by decide) (L1 := [row b cb q]) (L2 := []) rfl row_O 0 rfl dX7_areReadParts_2 rfl cv_X7_15 (k_X4_at (by omega)) rfl rfl (Nat.le_of_ble_eq_true rfl) ⟨by decide, by omega, by omega⟩ (fun r1 L1 h q hL => ?_)
  obtain ⟨rfl, rfl⟩ := q
  have hL : stars [row b cb q] h := hL
  refine e_istore_n 6 (ls' := [some (.ref b), some (.int (nI (q.getD 1 0))), none, none]) dX7_areReadParts_5 rfl (by decide) rfl ?_
  refine e_aload_n 7 dX7_areReadParts_6 rfl rfl ?_
  obtain ⟨z7, y7⟩ := row_at _ 0 hL rfl
  refine e_get 10 dX7_areReadParts_7 rfl fl_X7_9_4 y7 rfl ?_
  refine e_iconst 11 (v := (nI 2)) dX7_areReadParts_10 rfl (by decide) ?_
  refine e_icmp_lt 43 14 dX7_areReadParts_11 rfl rfl (fun c11 => ?_) (fun c11 => ?_)
  · have k11 := j_lt_t (a := q.length) (b := 2) (by omega) (by omega) c11
    refine e_iconst 44 (v := (nI 0)) dX7_areReadParts_43 rfl (by decide) ?_
    exact e_zret dX7_areReadParts_44 rfl (Or.inl (by decide)) (by omega) (by omega) (⟨_, ⟨by rw [show rdP q = false by unfold rdP; (try simp only [Bool.and_eq_true, Bool.or_eq_true, Bool.not_eq_true', Bool.and_eq_false_iff, Bool.or_eq_false_iff, Bool.not_eq_false', decide_eq_true_eq, decide_eq_false_iff_not, Bool.false_or, Bool.true_or, Bool.or_false, Bool.or_true, Bool.not_false, Bool.not_true, Bool.true_and, Bool.false_and, Bool.and_true, Bool.and_false, reduceCtorEq]) <;> (try omega)]; rfl, rfl⟩, hL⟩)
  · have k11 := j_lt_f (a := q.length) (b := 2) (by omega) (by omega) c11
    refine e_iload_n 15 dX7_areReadParts_14 rfl rfl ?_
    refine e_bipush 17 (v := (nI 7)) dX7_areReadParts_15 rfl (by decide) ?_
    refine e_sipush 20 (v := (nI 245)) dX7_areReadParts_17 rfl (by decide) ?_
    refine p_callS 23 hL [0] 1 rfl (by decide) (L1 := []) (L2 := [row b cb q]) rfl dX7_areReadParts_20 rfl cs_X7_22 (k_X11_within (by omega) (by omega) (by omega)) rfl rfl (Nat.le_of_ble_eq_true rfl) ⟨by decide, by omega, by omega⟩ (fun r1 L1 h q hL => ?_)
    obtain ⟨rfl, rfl⟩ := q
    have hL : stars [row b cb q] h := hL
    refine e_if_eq 43 26 dX7_areReadParts_23 rfl rfl (fun c23 => ?_) (fun c23 => ?_)
    · have k23 := jin_eq_t c23
      refine e_iconst 44 (v := (nI 0)) dX7_areReadParts_43 rfl (by decide) ?_
      exact e_zret dX7_areReadParts_44 rfl (Or.inl (by decide)) (by omega) (by omega) (⟨_, ⟨by rw [show rdP q = false by unfold rdP; (try simp only [Bool.and_eq_true, Bool.or_eq_true, Bool.not_eq_true', Bool.and_eq_false_iff, Bool.or_eq_false_iff, Bool.not_eq_false', decide_eq_true_eq, decide_eq_false_iff_not, Bool.false_or, Bool.true_or, Bool.or_false, Bool.or_true, Bool.not_false, Bool.not_true, Bool.true_and, Bool.false_and, Bool.and_true, Bool.and_false, reduceCtorEq]) <;> (try omega)]; rfl, rfl⟩, hL⟩)
    · have k23 := jin_eq_f c23
      refine e_iload_n 27 dX7_areReadParts_26 rfl rfl ?_
      refine e_bipush 29 (v := (nI 7)) dX7_areReadParts_27 rfl (by decide) ?_
      refine e_irem 30 (v := (nI (q.getD 1 0 % 7))) dX7_areReadParts_29 rfl (by decide) (pk_rem (by omega) (by decide) (by decide)) ?_
      refine e_if_ne 43 33 dX7_areReadParts_30 rfl rfl (fun c30 => ?_) (fun c30 => ?_)
      · have k30 := j_ne0_t (a := (q.getD 1 0 % 7)) (by omega) c30
        refine e_iconst 44 (v := (nI 0)) dX7_areReadParts_43 rfl (by decide) ?_
        exact e_zret dX7_areReadParts_44 rfl (Or.inl (by decide)) (by omega) (by omega) (⟨_, ⟨by rw [show rdP q = false by unfold rdP; (try simp only [Bool.and_eq_true, Bool.or_eq_true, Bool.not_eq_true', Bool.and_eq_false_iff, Bool.or_eq_false_iff, Bool.not_eq_false', decide_eq_true_eq, decide_eq_false_iff_not, Bool.false_or, Bool.true_or, Bool.or_false, Bool.or_true, Bool.not_false, Bool.not_true, Bool.true_and, Bool.false_and, Bool.and_true, Bool.and_false, reduceCtorEq]) <;> (try omega)]; rfl, rfl⟩, hL⟩)
      · have k30 := j_ne0_f (a := (q.getD 1 0 % 7)) (by omega) c30
        refine e_aload_n 34 dX7_areReadParts_33 rfl rfl ?_
        obtain ⟨z34, y34⟩ := row_at _ 0 hL rfl
        refine e_get 37 dX7_areReadParts_34 rfl fl_X7_9_4 y34 rfl ?_
        refine e_iconst 38 (v := (nI 2)) dX7_areReadParts_37 rfl (by decide) ?_
        refine e_isub 39 (v := (nI (q.length - 2))) dX7_areReadParts_38 rfl (pk_sub (by omega)) ?_
        refine e_iload_n 40 dX7_areReadParts_39 rfl rfl ?_
        refine e_icmp_eq 45 43 dX7_areReadParts_40 rfl rfl (fun c40 => ?_) (fun c40 => ?_)
        · have k40 := j_eq_t (a := (q.length - 2)) (b := (q.getD 1 0)) (by omega) (by omega) c40
          refine e_iconst 46 (v := (nI 2)) dX7_areReadParts_45 rfl (by decide) ?_
          refine e_istore_n 47 (ls' := [some (.ref b), some (.int (nI (q.getD 1 0))), some (.int (nI 2)), none]) dX7_areReadParts_46 rfl (by decide) rfl ?_
          refine e_iconst 48 (v := (nI 2)) dX7_areReadParts_47 rfl (by decide) ?_
          refine e_istore_n 49 (ls' := [some (.ref b), some (.int (nI (q.getD 1 0))), some (.int (nI 2)), some (.int (nI 2))]) dX7_areReadParts_48 rfl (by decide) rfl ?_
          exact l_X7_areReadParts hq (by omega) (by omega) (by omega) (by omega) (q.length + 1) 0 h (by omega) (by omega) hL
        · have k40 := j_eq_f (a := (q.length - 2)) (b := (q.getD 1 0)) (by omega) (by omega) c40
          refine e_iconst 44 (v := (nI 0)) dX7_areReadParts_43 rfl (by decide) ?_
          exact e_zret dX7_areReadParts_44 rfl (Or.inl (by decide)) (by omega) (by omega) (⟨_, ⟨by rw [show rdP q = false by unfold rdP; (try simp only [Bool.and_eq_true, Bool.or_eq_true, Bool.not_eq_true', Bool.and_eq_false_iff, Bool.or_eq_false_iff, Bool.not_eq_false', decide_eq_true_eq, decide_eq_false_iff_not, Bool.false_or, Bool.true_or, Bool.or_false, Bool.or_true, Bool.not_false, Bool.not_true, Bool.true_and, Bool.false_and, Bool.and_true, Bool.and_false, reduceCtorEq]) <;> (try omega)]; rfl, rfl⟩, hL⟩)
