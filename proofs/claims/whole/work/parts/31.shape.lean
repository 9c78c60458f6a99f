/-! Shape: how requests must look -/
def inN (v a b : Nat) : Bool := decide (a ≤ v) && decide (v ≤ b)
theorem jin_f0 {v a b : Nat} (h : inN v a b = false) : v < a ∨ b < v := by
  simp only [inN, Bool.and_eq_false_iff, decide_eq_false_iff_not] at h
  omega
theorem jin_t0 {v a b : Nat} (h : inN v a b = true) : a ≤ v ∧ v ≤ b := by
  simpa only [inN, Bool.and_eq_true, decide_eq_true_eq] using h
theorem jin_eq_t {v a b : Nat} (h : bI (inN v a b) = 0) : v < a ∨ b < v := jin_f0 (jb_eq_t h)
theorem jin_eq_f {v a b : Nat} (h : ¬ bI (inN v a b) = 0) : a ≤ v ∧ v ≤ b := jin_t0 (jb_eq_f h)
theorem jin_ne_t {v a b : Nat} (h : ¬ bI (inN v a b) = 0) : a ≤ v ∧ v ≤ b := jin_t0 (jb_eq_f h)
theorem jin_ne_f {v a b : Nat} (h : bI (inN v a b) = 0) : v < a ∨ b < v := jin_f0 (jb_eq_t h)
theorem inN_t {v a b : Nat} (h : a ≤ v ∧ v ≤ b) : inN v a b = true := by simp only [inN, Bool.and_eq_true, decide_eq_true_eq]; exact h
theorem inN_f {v a b : Nat} (h : v < a ∨ b < v) : inN v a b = false := by
  simp only [inN, Bool.and_eq_false_iff, decide_eq_false_iff_not]
  omega
/-- of any numbers -/
def inI (v a b : Int32) : Bool := decide (a ≤ v) && decide (v ≤ b)
set_option maxRecDepth 20000 in
set_option maxHeartbeats 2000000 in
/-- within -/
theorem k_X11_within {v a b : Nat} (hv : v < 2 ^ 31) (ha : a < 2 ^ 31) (hb : b < 2 ^ 31) : CA mX11_within [.int (nI v), .int (nI a), .int (nI b)] [] (fun r L => r = some (.int (bI (inN v a b))) ∧ L = []) 0 0 0 0 := by
  refine CA.mk 0 (ls := [some (.int (nI v)), some (.int (nI a)), some (.int (nI b))]) rfl rfl (Nat.le_of_ble_eq_true rfl) rfl (fun h hL => ?_)
  refine e_iload_n 1 dX11_within_0 rfl rfl ?_
  refine e_iload_n 2 dX11_within_1 rfl rfl ?_
  refine e_icmp_lt 14 5 dX11_within_2 rfl rfl (fun c2 => ?_) (fun c2 => ?_)
  · have k2 := j_lt_t (a := v) (b := a) (by omega) (by omega) c2
    refine e_iconst 15 (v := (nI 0)) dX11_within_14 rfl (by decide) ?_
    exact e_zret dX11_within_15 rfl (Or.inl (by decide)) (by omega) (by omega) (⟨_, ⟨by rw [inN_f (by omega)]; rfl, rfl⟩, hL⟩)
  · have k2 := j_lt_f (a := v) (b := a) (by omega) (by omega) c2
    refine e_iload_n 6 dX11_within_5 rfl rfl ?_
    refine e_iload_n 7 dX11_within_6 rfl rfl ?_
    refine e_icmp_gt 14 10 dX11_within_7 rfl rfl (fun c7 => ?_) (fun c7 => ?_)
    · have k7 := j_gt_t (a := v) (b := b) (by omega) (by omega) c7
      refine e_iconst 15 (v := (nI 0)) dX11_within_14 rfl (by decide) ?_
      exact e_zret dX11_within_15 rfl (Or.inl (by decide)) (by omega) (by omega) (⟨_, ⟨by rw [inN_f (by omega)]; rfl, rfl⟩, hL⟩)
    · have k7 := j_gt_f (a := v) (b := b) (by omega) (by omega) c7
      refine e_iconst 11 (v := (nI 1)) dX11_within_10 rfl (by decide) ?_
      refine e_goto 15 dX11_within_11 rfl ?_
      exact e_zret dX11_within_15 rfl (Or.inr (by decide)) (by omega) (by omega) (⟨_, ⟨by rw [inN_t (by omega)]; rfl, rfl⟩, hL⟩)
set_option maxRecDepth 20000 in
set_option maxHeartbeats 2000000 in
/-- within, of any ints -/
theorem k_X11_withinI {v a b : Int32} : CA mX11_within [.int v, .int a, .int b] [] (fun r L => r = some (.int (bI (inI v a b))) ∧ L = []) 0 0 0 0 := by
  refine CA.mk 0 (ls := [some (.int v), some (.int a), some (.int b)]) rfl rfl (Nat.le_of_ble_eq_true rfl) rfl (fun h hL => ?_)
  refine e_iload_n 1 dX11_within_0 rfl rfl ?_
  refine e_iload_n 2 dX11_within_1 rfl rfl ?_
  refine e_icmp_lt 14 5 dX11_within_2 rfl rfl (fun c2 => ?_) (fun c2 => ?_)
  · refine e_iconst 15 (v := (nI 0)) dX11_within_14 rfl (by decide) ?_
    exact e_zret dX11_within_15 rfl (Or.inl (by decide)) (by omega) (by omega) (⟨_, ⟨by rw [show inI v a b = false by simp only [inI, Bool.and_eq_false_iff, decide_eq_false_iff_not]; first | exact Or.inl (Int32.not_le.mpr c2) | exact Or.inr (Int32.not_le.mpr c7)]; rfl, rfl⟩, hL⟩)
  · refine e_iload_n 6 dX11_within_5 rfl rfl ?_
    refine e_iload_n 7 dX11_within_6 rfl rfl ?_
    refine e_icmp_gt 14 10 dX11_within_7 rfl rfl (fun c7 => ?_) (fun c7 => ?_)
    · refine e_iconst 15 (v := (nI 0)) dX11_within_14 rfl (by decide) ?_
      exact e_zret dX11_within_15 rfl (Or.inl (by decide)) (by omega) (by omega) (⟨_, ⟨by rw [show inI v a b = false by simp only [inI, Bool.and_eq_false_iff, decide_eq_false_iff_not]; first | exact Or.inl (Int32.not_le.mpr c2) | exact Or.inr (Int32.not_le.mpr c7)]; rfl, rfl⟩, hL⟩)
    · refine e_iconst 11 (v := (nI 1)) dX11_within_10 rfl (by decide) ?_
      refine e_goto 15 dX11_within_11 rfl ?_
      exact e_zret dX11_within_15 rfl (Or.inr (by decide)) (by omega) (by omega) (⟨_, ⟨by rw [show inI v a b = true by simp only [inI, Bool.and_eq_true, decide_eq_true_eq]; exact ⟨Int32.not_lt.mp c2, Int32.not_lt.mp c7⟩]; rfl, rfl⟩, hL⟩)
def cuF : Bool → Nat
  | true => 0
  | false => 3
set_option maxRecDepth 20000 in
set_option maxHeartbeats 2000000 in
/-- codeUnless -/
theorem k_X7_codeUnless {b : Bool} : CA mX7_codeUnless [.int (bI b)] [] (fun r L => r = some (.int (nI (cuF b))) ∧ L = []) 0 0 0 0 := by
  refine CA.mk 0 (ls := [some (.int (bI b))]) rfl rfl (Nat.le_of_ble_eq_true rfl) rfl (fun h hL => ?_)
  refine e_iload_n 1 dX7_codeUnless_0 rfl rfl ?_
  refine e_if_eq 8 4 dX7_codeUnless_1 rfl rfl (fun c1 => ?_) (fun c1 => ?_)
  · have k1 := jb_eq_t c1
    refine e_iconst 9 (v := (nI 3)) dX7_codeUnless_8 rfl (by decide) ?_
    exact e_iret dX7_codeUnless_9 rfl (by omega) (by omega) (⟨_, ⟨by rw [k1]; rfl, rfl⟩, hL⟩)
  · have k1 := jb_eq_f c1
    refine e_iconst 5 (v := (nI 0)) dX7_codeUnless_4 rfl (by decide) ?_
    refine e_goto 9 dX7_codeUnless_5 rfl ?_
    exact e_iret dX7_codeUnless_9 rfl (by omega) (by omega) (⟨_, ⟨by rw [k1]; rfl, rfl⟩, hL⟩)
def dgF (q : List Nat) : Nat := if q.length < 3 then 3 else if wd q 1 = 0 then 0 else if wd q 1 = 1 ∨ wd q 1 = 2 ∨ wd q 1 = 4 ∨ (10 ≤ wd q 1 ∧ wd q 1 ≤ 18) ∨ wd q 1 = 20 then (if q.length = 5 then 0 else 3) else 1
def txF (q : List Nat) : Nat := if q.length < 2 then 3 else if q.getD 1 0 ≠ 14 then 1 else if q.length = 4 ∧ 1 ≤ q.getD 2 0 ∧ q.getD 2 0 ≤ 4 then 0 else 3
set_option maxRecDepth 20000 in
set_option maxHeartbeats 2000000 in
/-- diagnosisFault(q) -/
theorem k_X7_diagnosisFault {b cb : Nat} {q : List Nat} (hq : ∀ x ∈ q, x < 256) : CA mX7_diagnosisFault [.ref b] [row b cb q] (fun r L => r = some (.int (nI (dgF q))) ∧ L = [row b cb q]) 1 24 0 0 := by
  refine CA.mk 1 (ls := [some (.ref b), none]) rfl rfl (Nat.le_of_ble_eq_true rfl) rfl (fun h hL => ?_)
  have hlen := row_len _ 0 hL rfl
  have w1 := wd_lt (k := 1) hq
  have w3 := wd_lt (k := 3) hq
  have w7 := wd_lt (k := 7) hq
  have g0 := gd_lt (i := 0) hq (by decide)
  have g1 := gd_lt (i := 1) hq (by decide)
  have g2 := gd_lt (i := 2) hq (by decide)
  have g5 := gd_lt (i := 5) hq (by decide)
  have g9 := gd_lt (i := 9) hq (by decide)
  refine e_aload_n 1 dX7_diagnosisFault_0 rfl rfl ?_
  obtain ⟨z1, y1⟩ := row_at _ 0 hL rfl
  refine e_get 4 dX7_diagnosisFault_1 rfl fl_X7_9_4 y1 rfl ?_
  refine e_iconst 5 (v := (nI 3)) dX7_diagnosisFault_4 rfl (by decide) ?_
  refine e_icmp_ge 10 8 dX7_diagnosisFault_5 rfl rfl (fun c5 => ?_) (fun c5 => ?_)
  · have k5 := j_ge_t (a := q.length) (b := 3) (by omega) (by omega) c5
    refine e_aload_n 11 dX7_diagnosisFault_10 rfl rfl ?_
    refine e_iconst 12 (v := (nI 1)) dX7_diagnosisFault_11 rfl (by decide) ?_
    refine p_callV 15 hL [0] 1 rfl (by decide) (L1 := [row b cb q]) (L2 := []) rfl row_O 0 rfl dX7_diagnosisFault_12 rfl cv_X7_19 (k_X4_word (by omega)) rfl rfl (Nat.le_of_ble_eq_true rfl) ⟨by decide, by omega, by omega⟩ (fun r1 L1 h q hL => ?_)
    obtain ⟨rfl, rfl⟩ := q
    have hL : stars [row b cb q] h := hL
    refine e_istore_n 16 (ls' := [some (.ref b), some (.int (nI (wd q 1)))]) dX7_diagnosisFault_15 rfl (by decide) rfl ?_
    refine e_iload_n 17 dX7_diagnosisFault_16 rfl rfl ?_
    refine e_if_ne 22 20 dX7_diagnosisFault_17 rfl rfl (fun c17 => ?_) (fun c17 => ?_)
    · have k17 := j_ne0_t (a := (wd q 1)) (by omega) c17
      refine e_iload_n 23 dX7_diagnosisFault_22 rfl rfl ?_
      refine e_iconst 24 (v := (nI 1)) dX7_diagnosisFault_23 rfl (by decide) ?_
      refine e_icmp_eq 54 27 dX7_diagnosisFault_24 rfl rfl (fun c24 => ?_) (fun c24 => ?_)
      · have k24 := j_eq_t (a := (wd q 1)) (b := 1) (by omega) (by omega) c24
        refine e_aload_n 55 dX7_diagnosisFault_54 rfl rfl ?_
        obtain ⟨z55, y55⟩ := row_at _ 0 hL rfl
        refine e_get 58 dX7_diagnosisFault_55 rfl fl_X7_9_4 y55 rfl ?_
        refine e_iconst 59 (v := (nI 5)) dX7_diagnosisFault_58 rfl (by decide) ?_
        refine e_icmp_ne 66 62 dX7_diagnosisFault_59 rfl rfl (fun c59 => ?_) (fun c59 => ?_)
        · have k59 := j_ne_t (a := q.length) (b := 5) (by omega) (by omega) c59
          refine e_iconst 67 (v := (nI 3)) dX7_diagnosisFault_66 rfl (by decide) ?_
          exact e_iret dX7_diagnosisFault_67 rfl (by omega) (by omega) (⟨_, ⟨by rw [show dgF q = 3 from by unfold dgF; (repeat' split) <;> first | rfl | (exfalso; omega)], rfl⟩, hL⟩)
        · have k59 := j_ne_f (a := q.length) (b := 5) (by omega) (by omega) c59
          refine e_iconst 63 (v := (nI 0)) dX7_diagnosisFault_62 rfl (by decide) ?_
          refine e_goto 67 dX7_diagnosisFault_63 rfl ?_
          exact e_iret dX7_diagnosisFault_67 rfl (by omega) (by omega) (⟨_, ⟨by rw [show dgF q = 0 from by unfold dgF; (repeat' split) <;> first | rfl | (exfalso; omega)], rfl⟩, hL⟩)
      · have k24 := j_eq_f (a := (wd q 1)) (b := 1) (by omega) (by omega) c24
        refine e_iload_n 28 dX7_diagnosisFault_27 rfl rfl ?_
        refine e_iconst 29 (v := (nI 2)) dX7_diagnosisFault_28 rfl (by decide) ?_
        refine e_icmp_eq 54 32 dX7_diagnosisFault_29 rfl rfl (fun c29 => ?_) (fun c29 => ?_)
        · have k29 := j_eq_t (a := (wd q 1)) (b := 2) (by omega) (by omega) c29
          refine e_aload_n 55 dX7_diagnosisFault_54 rfl rfl ?_
          obtain ⟨z55, y55⟩ := row_at _ 0 hL rfl
          refine e_get 58 dX7_diagnosisFault_55 rfl fl_X7_9_4 y55 rfl ?_
          refine e_iconst 59 (v := (nI 5)) dX7_diagnosisFault_58 rfl (by decide) ?_
          refine e_icmp_ne 66 62 dX7_diagnosisFault_59 rfl rfl (fun c59 => ?_) (fun c59 => ?_)
          · have k59 := j_ne_t (a := q.length) (b := 5) (by omega) (by omega) c59
            refine e_iconst 67 (v := (nI 3)) dX7_diagnosisFault_66 rfl (by decide) ?_
            exact e_iret dX7_diagnosisFault_67 rfl (by omega) (by omega) (⟨_, ⟨by rw [show dgF q = 3 from by unfold dgF; (repeat' split) <;> first | rfl | (exfalso; omega)], rfl⟩, hL⟩)
          · have k59 := j_ne_f (a := q.length) (b := 5) (by omega) (by omega) c59
            refine e_iconst 63 (v := (nI 0)) dX7_diagnosisFault_62 rfl (by decide) ?_
            refine e_goto 67 dX7_diagnosisFault_63 rfl ?_
            exact e_iret dX7_diagnosisFault_67 rfl (by omega) (by omega) (⟨_, ⟨by rw [show dgF q = 0 from by unfold dgF; (repeat' split) <;> first | rfl | (exfalso; omega)], rfl⟩, hL⟩)
        · have k29 := j_eq_f (a := (wd q 1)) (b := 2) (by omega) (by omega) c29
          refine e_iload_n 33 dX7_diagnosisFault_32 rfl rfl ?_
          refine e_iconst 34 (v := (nI 4)) dX7_diagnosisFault_33 rfl (by decide) ?_
          refine e_icmp_eq 54 37 dX7_diagnosisFault_34 rfl rfl (fun c34 => ?_) (fun c34 => ?_)
          · have k34 := j_eq_t (a := (wd q 1)) (b := 4) (by omega) (by omega) c34
            refine e_aload_n 55 dX7_diagnosisFault_54 rfl rfl ?_
            obtain ⟨z55, y55⟩ := row_at _ 0 hL rfl
            refine e_get 58 dX7_diagnosisFault_55 rfl fl_X7_9_4 y55 rfl ?_
            refine e_iconst 59 (v := (nI 5)) dX7_diagnosisFault_58 rfl (by decide) ?_
            refine e_icmp_ne 66 62 dX7_diagnosisFault_59 rfl rfl (fun c59 => ?_) (fun c59 => ?_)
            · have k59 := j_ne_t (a := q.length) (b := 5) (by omega) (by omega) c59
              refine e_iconst 67 (v := (nI 3)) dX7_diagnosisFault_66 rfl (by decide) ?_
              exact e_iret dX7_diagnosisFault_67 rfl (by omega) (by omega) (⟨_, ⟨by rw [show dgF q = 3 from by unfold dgF; (repeat' split) <;> first | rfl | (exfalso; omega)], rfl⟩, hL⟩)
            · have k59 := j_ne_f (a := q.length) (b := 5) (by omega) (by omega) c59
              refine e_iconst 63 (v := (nI 0)) dX7_diagnosisFault_62 rfl (by decide) ?_
              refine e_goto 67 dX7_diagnosisFault_63 rfl ?_
              exact e_iret dX7_diagnosisFault_67 rfl (by omega) (by omega) (⟨_, ⟨by rw [show dgF q = 0 from by unfold dgF; (repeat' split) <;> first | rfl | (exfalso; omega)], rfl⟩, hL⟩)
          · have k34 := j_eq_f (a := (wd q 1)) (b := 4) (by omega) (by omega) c34
            refine e_iload_n 38 dX7_diagnosisFault_37 rfl rfl ?_
            refine e_bipush 40 (v := (nI 10)) dX7_diagnosisFault_38 rfl (by decide) ?_
            refine e_bipush 42 (v := (nI 18)) dX7_diagnosisFault_40 rfl (by decide) ?_
            refine p_callS 45 hL [0] 1 rfl (by decide) (L1 := []) (L2 := [row b cb q]) rfl dX7_diagnosisFault_42 rfl cs_X7_22 (k_X11_within (by omega) (by omega) (by omega)) rfl rfl (Nat.le_of_ble_eq_true rfl) ⟨by decide, by omega, by omega⟩ (fun r1 L1 h q hL => ?_)
            obtain ⟨rfl, rfl⟩ := q
            have hL : stars [row b cb q] h := hL
            refine e_if_ne 54 48 dX7_diagnosisFault_45 rfl rfl (fun c45 => ?_) (fun c45 => ?_)
            · have k45 := jin_ne_t c45
              refine e_aload_n 55 dX7_diagnosisFault_54 rfl rfl ?_
              obtain ⟨z55, y55⟩ := row_at _ 0 hL rfl
              refine e_get 58 dX7_diagnosisFault_55 rfl fl_X7_9_4 y55 rfl ?_
              refine e_iconst 59 (v := (nI 5)) dX7_diagnosisFault_58 rfl (by decide) ?_
              refine e_icmp_ne 66 62 dX7_diagnosisFault_59 rfl rfl (fun c59 => ?_) (fun c59 => ?_)
              · have k59 := j_ne_t (a := q.length) (b := 5) (by omega) (by omega) c59
                refine e_iconst 67 (v := (nI 3)) dX7_diagnosisFault_66 rfl (by decide) ?_
                exact e_iret dX7_diagnosisFault_67 rfl (by omega) (by omega) (⟨_, ⟨by rw [show dgF q = 3 from by unfold dgF; (repeat' split) <;> first | rfl | (exfalso; omega)], rfl⟩, hL⟩)
              · have k59 := j_ne_f (a := q.length) (b := 5) (by omega) (by omega) c59
                refine e_iconst 63 (v := (nI 0)) dX7_diagnosisFault_62 rfl (by decide) ?_
                refine e_goto 67 dX7_diagnosisFault_63 rfl ?_
                exact e_iret dX7_diagnosisFault_67 rfl (by omega) (by omega) (⟨_, ⟨by rw [show dgF q = 0 from by unfold dgF; (repeat' split) <;> first | rfl | (exfalso; omega)], rfl⟩, hL⟩)
            · have k45 := jin_ne_f c45
              refine e_iload_n 49 dX7_diagnosisFault_48 rfl rfl ?_
              refine e_bipush 51 (v := (nI 20)) dX7_diagnosisFault_49 rfl (by decide) ?_
              refine e_icmp_ne 68 54 dX7_diagnosisFault_51 rfl rfl (fun c51 => ?_) (fun c51 => ?_)
              · have k51 := j_ne_t (a := (wd q 1)) (b := 20) (by omega) (by omega) c51
                refine e_iconst 69 (v := (nI 1)) dX7_diagnosisFault_68 rfl (by decide) ?_
                exact e_iret dX7_diagnosisFault_69 rfl (by omega) (by omega) (⟨_, ⟨by rw [show dgF q = 1 from by unfold dgF; (repeat' split) <;> first | rfl | (exfalso; omega)], rfl⟩, hL⟩)
              · have k51 := j_ne_f (a := (wd q 1)) (b := 20) (by omega) (by omega) c51
                refine e_aload_n 55 dX7_diagnosisFault_54 rfl rfl ?_
                obtain ⟨z55, y55⟩ := row_at _ 0 hL rfl
                refine e_get 58 dX7_diagnosisFault_55 rfl fl_X7_9_4 y55 rfl ?_
                refine e_iconst 59 (v := (nI 5)) dX7_diagnosisFault_58 rfl (by decide) ?_
                refine e_icmp_ne 66 62 dX7_diagnosisFault_59 rfl rfl (fun c59 => ?_) (fun c59 => ?_)
                · have k59 := j_ne_t (a := q.length) (b := 5) (by omega) (by omega) c59
                  refine e_iconst 67 (v := (nI 3)) dX7_diagnosisFault_66 rfl (by decide) ?_
                  exact e_iret dX7_diagnosisFault_67 rfl (by omega) (by omega) (⟨_, ⟨by rw [show dgF q = 3 from by unfold dgF; (repeat' split) <;> first | rfl | (exfalso; omega)], rfl⟩, hL⟩)
                · have k59 := j_ne_f (a := q.length) (b := 5) (by omega) (by omega) c59
                  refine e_iconst 63 (v := (nI 0)) dX7_diagnosisFault_62 rfl (by decide) ?_
                  refine e_goto 67 dX7_diagnosisFault_63 rfl ?_
                  exact e_iret dX7_diagnosisFault_67 rfl (by omega) (by omega) (⟨_, ⟨by rw [show dgF q = 0 from by unfold dgF; (repeat' split) <;> first | rfl | (exfalso; omega)], rfl⟩, hL⟩)
    · have k17 := j_ne0_f (a := (wd q 1)) (by omega) c17
      refine e_iconst 21 (v := (nI 0)) dX7_diagnosisFault_20 rfl (by decide) ?_
      exact e_iret dX7_diagnosisFault_21 rfl (by omega) (by omega) (⟨_, ⟨by rw [show dgF q = 0 from by unfold dgF; (repeat' split) <;> first | rfl | (exfalso; omega)], rfl⟩, hL⟩)
  · have k5 := j_ge_f (a := q.length) (b := 3) (by omega) (by omega) c5
    refine e_iconst 9 (v := (nI 3)) dX7_diagnosisFault_8 rfl (by decide) ?_
    exact e_iret dX7_diagnosisFault_9 rfl (by omega) (by omega) (⟨_, ⟨by rw [show dgF q = 3 from by unfold dgF; (repeat' split) <;> first | rfl | (exfalso; omega)], rfl⟩, hL⟩)
set_option maxRecDepth 20000 in
set_option maxHeartbeats 2000000 in
/-- textsFault(q) -/
theorem k_X7_textsFault {b cb : Nat} {q : List Nat} (hq : ∀ x ∈ q, x < 256) : CA mX7_textsFault [.ref b] [row b cb q] (fun r L => r = some (.int (nI (txF q))) ∧ L = [row b cb q]) 1 24 0 0 := by
  refine CA.mk 0 (ls := [some (.ref b)]) rfl rfl (Nat.le_of_ble_eq_true rfl) rfl (fun h hL => ?_)
  have hlen := row_len _ 0 hL rfl
  have w1 := wd_lt (k := 1) hq
  have w3 := wd_lt (k := 3) hq
  have w7 := wd_lt (k := 7) hq
  have g0 := gd_lt (i := 0) hq (by decide)
  have g1 := gd_lt (i := 1) hq (by decide)
  have g2 := gd_lt (i := 2) hq (by decide)
  have g5 := gd_lt (i := 5) hq (by decide)
  have g9 := gd_lt (i := 9) hq (by decide)
  refine e_aload_n 1 dX7_textsFault_0 rfl rfl ?_
  obtain ⟨z1, y1⟩ := row_at _ 0 hL rfl
  refine e_get 4 dX7_textsFault_1 rfl fl_X7_9_4 y1 rfl ?_
  refine e_iconst 5 (v := (nI 2)) dX7_textsFault_4 rfl (by decide) ?_
  refine e_icmp_ge 10 8 dX7_textsFault_5 rfl rfl (fun c5 => ?_) (fun c5 => ?_)
  · have k5 := j_ge_t (a := q.length) (b := 2) (by omega) (by omega) c5
    refine e_aload_n 11 dX7_textsFault_10 rfl rfl ?_
    refine e_iconst 12 (v := (nI 1)) dX7_textsFault_11 rfl (by decide) ?_
    refine p_callV 15 hL [0] 1 rfl (by decide) (L1 := [row b cb q]) (L2 := []) rfl row_O 0 rfl dX7_textsFault_12 rfl cv_X7_15 (k_X4_at (by omega)) rfl rfl (Nat.le_of_ble_eq_true rfl) ⟨by decide, by omega, by omega⟩ (fun r1 L1 h q hL => ?_)
    obtain ⟨rfl, rfl⟩ := q
    have hL : stars [row b cb q] h := hL
    refine e_bipush 17 (v := (nI 14)) dX7_textsFault_15 rfl (by decide) ?_
    refine e_icmp_eq 22 20 dX7_textsFault_17 rfl rfl (fun c17 => ?_) (fun c17 => ?_)
    · have k17 := j_eq_t (a := (q.getD 1 0)) (b := 14) (by omega) (by omega) c17
      refine e_aload_n 23 dX7_textsFault_22 rfl rfl ?_
      obtain ⟨z23, y23⟩ := row_at _ 0 hL rfl
      refine e_get 26 dX7_textsFault_23 rfl fl_X7_9_4 y23 rfl ?_
      refine e_iconst 27 (v := (nI 4)) dX7_textsFault_26 rfl (by decide) ?_
      refine e_icmp_ne 47 30 dX7_textsFault_27 rfl rfl (fun c27 => ?_) (fun c27 => ?_)
      · have k27 := j_ne_t (a := q.length) (b := 4) (by omega) (by omega) c27
        refine e_iconst 48 (v := (nI 3)) dX7_textsFault_47 rfl (by decide) ?_
        exact e_iret dX7_textsFault_48 rfl (by omega) (by omega) (⟨_, ⟨by rw [show txF q = 3 from by unfold txF; (repeat' split) <;> first | rfl | (exfalso; omega)], rfl⟩, hL⟩)
      · have k27 := j_ne_f (a := q.length) (b := 4) (by omega) (by omega) c27
        refine e_aload_n 31 dX7_textsFault_30 rfl rfl ?_
        refine e_iconst 32 (v := (nI 2)) dX7_textsFault_31 rfl (by decide) ?_
        refine p_callV 35 hL [0] 1 rfl (by decide) (L1 := [row b cb q]) (L2 := []) rfl row_O 0 rfl dX7_textsFault_32 rfl cv_X7_15 (k_X4_at (by omega)) rfl rfl (Nat.le_of_ble_eq_true rfl) ⟨by decide, by omega, by omega⟩ (fun r1 L1 h q hL => ?_)
        obtain ⟨rfl, rfl⟩ := q
        have hL : stars [row b cb q] h := hL
        refine e_iconst 36 (v := (nI 1)) dX7_textsFault_35 rfl (by decide) ?_
        refine e_iconst 37 (v := (nI 4)) dX7_textsFault_36 rfl (by decide) ?_
        refine p_callS 40 hL [0] 1 rfl (by decide) (L1 := []) (L2 := [row b cb q]) rfl dX7_textsFault_37 rfl cs_X7_22 (k_X11_within (by omega) (by omega) (by omega)) rfl rfl (Nat.le_of_ble_eq_true rfl) ⟨by decide, by omega, by omega⟩ (fun r1 L1 h q hL => ?_)
        obtain ⟨rfl, rfl⟩ := q
        have hL : stars [row b cb q] h := hL
        refine e_if_eq 47 43 dX7_textsFault_40 rfl rfl (fun c40 => ?_) (fun c40 => ?_)
        · have k40 := jin_eq_t c40
          refine e_iconst 48 (v := (nI 3)) dX7_textsFault_47 rfl (by decide) ?_
          exact e_iret dX7_textsFault_48 rfl (by omega) (by omega) (⟨_, ⟨by rw [show txF q = 3 from by unfold txF; (repeat' split) <;> first | rfl | (exfalso; omega)], rfl⟩, hL⟩)
        · have k40 := jin_eq_f c40
          refine e_iconst 44 (v := (nI 0)) dX7_textsFault_43 rfl (by decide) ?_
          refine e_goto 48 dX7_textsFault_44 rfl ?_
          exact e_iret dX7_textsFault_48 rfl (by omega) (by omega) (⟨_, ⟨by rw [show txF q = 0 from by unfold txF; (repeat' split) <;> first | rfl | (exfalso; omega)], rfl⟩, hL⟩)
    · have k17 := j_eq_f (a := (q.getD 1 0)) (b := 14) (by omega) (by omega) c17
      refine e_iconst 21 (v := (nI 1)) dX7_textsFault_20 rfl (by decide) ?_
      exact e_iret dX7_textsFault_21 rfl (by omega) (by omega) (⟨_, ⟨by rw [show txF q = 1 from by unfold txF; (repeat' split) <;> first | rfl | (exfalso; omega)], rfl⟩, hL⟩)
  · have k5 := j_ge_f (a := q.length) (b := 2) (by omega) (by omega) c5
    refine e_iconst 9 (v := (nI 3)) dX7_textsFault_8 rfl (by decide) ?_
    exact e_iret dX7_textsFault_9 rfl (by omega) (by omega) (⟨_, ⟨by rw [show txF q = 3 from by unfold txF; (repeat' split) <;> first | rfl | (exfalso; omega)], rfl⟩, hL⟩)
def rdS (q : List Nat) : Nat → Nat
  | 0 => 2
  | j + 1 => rdS q j + (2 + 2 * wd q (2 + 7 * j + 5))
theorem rdS_lt {q : List Nat} (hq : ∀ x ∈ q, x < 256) : ∀ j, rdS q j ≤ 2 + 200000 * j
  | 0 => Nat.le_refl 2
  | j + 1 => by
    have h1 := rdS_lt hq j
    have h2 := wd_lt (k := 2 + 7 * j + 5) hq
    rw [rdS]
    omega
def rdP (q : List Nat) : Bool := decide (2 ≤ q.length ∧ 7 ≤ q.getD 1 0 ∧ q.getD 1 0 ≤ 245 ∧ q.getD 1 0 % 7 = 0 ∧ q.length - 2 = q.getD 1 0 ∧ rdS q (q.getD 1 0 / 7) ≤ 253)
set_option maxRecDepth 20000 in
set_option maxHeartbeats 2000000 in
theorem l_X7_areReadParts {b cb : Nat} {q : List Nat} (hq : ∀ x ∈ q, x < 256) (h2 : 2 ≤ q.length) (h7 : 7 ≤ q.getD 1 0 ∧ q.getD 1 0 ≤ 245) (hm : q.getD 1 0 % 7 = 0) (hl : q.length - 2 = q.getD 1 0) : ∀ (n : Nat) (j : Nat) (h : eH), q.length - 7 * j < n → 2 + 7 * j ≤ q.length → stars [row b cb q] h → EE mX7_areReadParts 1 24 0 0 (fun r h' => ∃ L', (r = some (.int (bI (rdP q))) ∧ L' = [row b cb q]) ∧ stars L' h') 49 [some (.ref b), some (.int (nI (q.getD 1 0))), some (.int (nI (rdS q j))), some (.int (nI (2 + 7 * j)))] [] h 0 0 := by
  intro n
  induction n with
  | zero => intro j h hlt hi hL; exact absurd hlt (by omega)
  | succ n ih =>
    intro j h hlt hi hL
    have hrd := rdS_lt hq j
    have hwj := wd_lt (k := 2 + 7 * j + 5) hq
    refine e_iload_n 50 dX7_areReadParts_49 rfl rfl ?_
    refine e_bipush 52 (v := (nI 7)) dX7_areReadParts_50 rfl (by decide) ?_
    refine e_iadd 53 (v := (nI ((2 + 7 * j) + 7))) dX7_areReadParts_52 rfl (nI_add (2 + 7 * j) 7) ?_
    refine e_aload_n 54 dX7_areReadParts_53 rfl rfl ?_
    obtain ⟨z54, y54⟩ := row_at _ 0 hL rfl
    refine e_get 57 dX7_areReadParts_54 rfl fl_X7_9_4 y54 rfl ?_
    refine e_icmp_gt 80 60 dX7_areReadParts_57 rfl rfl (fun c57 => ?_) (fun c57 => ?_)
    · have k57 := j_gt_t (a := ((2 + 7 * j) + 7)) (b := q.length) (by omega) (by omega) c57
      refine e_iload_n 81 dX7_areReadParts_80 rfl rfl ?_
      refine e_sipush 84 (v := (nI 253)) dX7_areReadParts_81 rfl (by decide) ?_
      refine e_icmp_gt 91 87 dX7_areReadParts_84 rfl rfl (fun c84 => ?_) (fun c84 => ?_)
      · have k84 := j_gt_t (a := (rdS q j)) (b := 253) (by omega) (by omega) c84
        refine e_iconst 92 (v := (nI 0)) dX7_areReadParts_91 rfl (by decide) ?_
        exact e_zret dX7_areReadParts_92 rfl (Or.inl (by decide)) (by omega) (by omega) (⟨_, ⟨by rw [show rdP q = false by unfold rdP; rw [show q.getD 1 0 / 7 = j by omega]; (try simp only [Bool.and_eq_true, Bool.or_eq_true, Bool.not_eq_true', Bool.and_eq_false_iff, Bool.or_eq_false_iff, Bool.not_eq_false', decide_eq_true_eq, decide_eq_false_iff_not, Bool.false_or, Bool.true_or, Bool.or_false, Bool.or_true, Bool.not_false, Bool.not_true, Bool.true_and, Bool.false_and, Bool.and_true, Bool.and_false, reduceCtorEq]) <;> (try omega)]; rfl, rfl⟩, hL⟩)
      · have k84 := j_gt_f (a := (rdS q j)) (b := 253) (by omega) (by omega) c84
        refine e_iconst 88 (v := (nI 1)) dX7_areReadParts_87 rfl (by decide) ?_
        refine e_goto 92 dX7_areReadParts_88 rfl ?_
        exact e_zret dX7_areReadParts_92 rfl (Or.inr (by decide)) (by omega) (by omega) (⟨_, ⟨by rw [show rdP q = true by unfold rdP; rw [show q.getD 1 0 / 7 = j by omega]; (try simp only [Bool.and_eq_true, Bool.or_eq_true, Bool.not_eq_true', Bool.and_eq_false_iff, Bool.or_eq_false_iff, Bool.not_eq_false', decide_eq_true_eq, decide_eq_false_iff_not, Bool.false_or, Bool.true_or, Bool.or_false, Bool.or_true, Bool.not_false, Bool.not_true, Bool.true_and, Bool.false_and, Bool.and_true, Bool.and_false, reduceCtorEq]) <;> (try omega)]; rfl, rfl⟩, hL⟩)
    · have k57 := j_gt_f (a := ((2 + 7 * j) + 7)) (b := q.length) (by omega) (by omega) c57
      refine e_iload_n 61 dX7_areReadParts_60 rfl rfl ?_
      refine e_iconst 62 (v := (nI 2)) dX7_areReadParts_61 rfl (by decide) ?_
      refine e_iconst 63 (v := (nI 2)) dX7_areReadParts_62 rfl (by decide) ?_
      refine e_aload_n 64 dX7_areReadParts_63 rfl rfl ?_
      refine e_iload_n 65 dX7_areReadParts_64 rfl rfl ?_
      refine e_iconst 66 (v := (nI 5)) dX7_areReadParts_65 rfl (by decide) ?_
      refine e_iadd 67 (v := (nI ((2 + 7 * j) + 5))) dX7_areReadParts_66 rfl (nI_add (2 + 7 * j) 5) ?_
      refine p_callV 70 hL [0] 1 rfl (by decide) (L1 := [row b cb q]) (L2 := []) rfl row_O 0 rfl dX7_areReadParts_67 rfl cv_X7_19 (k_X4_word (by omega)) rfl rfl (Nat.le_of_ble_eq_true rfl) ⟨by decide, by omega, by omega⟩ (fun r1 L1 h q hL => ?_)
      obtain ⟨rfl, rfl⟩ := q
      have hL : stars [row b cb q] h := hL
      refine e_imul 71 (v := (nI (2 * (wd q ((2 + 7 * j) + 5))))) dX7_areReadParts_70 rfl (pk_mul 2 (wd q ((2 + 7 * j) + 5))) ?_
      refine e_iadd 72 (v := (nI (2 + (2 * (wd q ((2 + 7 * j) + 5)))))) dX7_areReadParts_71 rfl (nI_add 2 (2 * (wd q ((2 + 7 * j) + 5)))) ?_
      refine e_iadd 73 (v := (nI ((rdS q j) + (2 + (2 * (wd q ((2 + 7 * j) + 5))))))) dX7_areReadParts_72 rfl (nI_add (rdS q j) (2 + (2 * (wd q ((2 + 7 * j) + 5))))) ?_
      refine e_istore_n 74 (ls' := [some (.ref b), some (.int (nI (q.getD 1 0))), some (.int (nI ((rdS q j) + (2 + (2 * (wd q ((2 + 7 * j) + 5))))))), some (.int (nI (2 + 7 * j)))]) dX7_areReadParts_73 rfl (by decide) rfl ?_
      refine e_iinc 77 (v := (nI ((2 + 7 * j) + 7))) (ls' := [some (.ref b), some (.int (nI (q.getD 1 0))), some (.int (nI ((rdS q j) + (2 + (2 * (wd q ((2 + 7 * j) + 5))))))), some (.int (nI ((2 + 7 * j) + 7)))]) dX7_areReadParts_74 rfl rfl (nI_add (2 + 7 * j) 7) (by decide) rfl ?_
      refine e_goto 49 dX7_areReadParts_77 rfl ?_
      refine e_wk [some (.ref b), some (.int (nI (q.getD 1 0))), some (.int (nI (rdS q (j + 1)))), some (.int (nI (2 + 7 * (j + 1))))] ⟨rfl, rfl, by rw [rdS], by rw [show 2 + 7 * (j + 1) = 2 + 7 * j + 7 by omega], trivial⟩ ?_
      exact ih (j + 1) h (by omega) (by omega) hL
set_option maxRecDepth 20000 in
set_option maxHeartbeats 2000000 in
/-- areReadParts(q) -/
theorem k_X7_areReadParts {b cb : Nat} {q : List Nat} (hq : ∀ x ∈ q, x < 256) : CA mX7_areReadParts [.ref b] [row b cb q] (fun r L => r = some (.int (bI (rdP q))) ∧ L = [row b cb q]) 1 24 0 0 := by
  refine CA.mk 3 (ls := [some (.ref b), none, none, none]) rfl rfl (Nat.le_of_ble_eq_true rfl) rfl (fun h hL => ?_)
  have hlen := row_len _ 0 hL rfl
  have w1 := wd_lt (k := 1) hq
  have w3 := wd_lt (k := 3) hq
  have w7 := wd_lt (k := 7) hq
  have g0 := gd_lt (i := 0) hq (by decide)
  have g1 := gd_lt (i := 1) hq (by decide)
  have g2 := gd_lt (i := 2) hq (by decide)
  have g5 := gd_lt (i := 5) hq (by decide)
  have g9 := gd_lt (i := 9) hq (by decide)
  refine e_aload_n 1 dX7_areReadParts_0 rfl rfl ?_
  refine e_iconst 2 (v := (nI 1)) dX7_areReadParts_1 rfl (by decide) ?_
  refine p_callV 5 hL [0] 1 rfl (by decide) (L1 := [row b cb q]) (L2 := []) rfl row_O 0 rfl dX7_areReadParts_2 rfl cv_X7_15 (k_X4_at (by omega)) rfl rfl (Nat.le_of_ble_eq_true rfl) ⟨by decide, by omega, by omega⟩ (fun r1 L1 h q hL => ?_)
  obtain ⟨rfl, rfl⟩ := q
  have hL : stars [row b cb q] h := hL
  refine e_istore_n 6 (ls' := [some (.ref b), some (.int (nI (q.getD 1 0))), none, none]) dX7_areReadParts_5 rfl (by decide) rfl ?_
  refine e_aload_n 7 dX7_areReadParts_6 rfl rfl ?_
  obtain ⟨z7, y7⟩ := row_at _ 0 hL rfl
  refine e_get 10 dX7_areReadParts_7 rfl fl_X7_9_4 y7 rfl ?_
  refine e_iconst 11 (v := (nI 2)) dX7_areReadParts_10 rfl (by decide) ?_
  refine e_icmp_lt 43 14 dX7_areReadParts_11 rfl rfl (fun c11 => ?_) (fun c11 => ?_)
  · have k11 := j_lt_t (a := q.length) (b := 2) (by omega) (by omega) c11
    refine e_iconst 44 (v := (nI 0)) dX7_areReadParts_43 rfl (by decide) ?_
    exact e_zret dX7_areReadParts_44 rfl (Or.inl (by decide)) (by omega) (by omega) (⟨_, ⟨by rw [show rdP q = false by unfold rdP; (try simp only [Bool.and_eq_true, Bool.or_eq_true, Bool.not_eq_true', Bool.and_eq_false_iff, Bool.or_eq_false_iff, Bool.not_eq_false', decide_eq_true_eq, decide_eq_false_iff_not, Bool.false_or, Bool.true_or, Bool.or_false, Bool.or_true, Bool.not_false, Bool.not_true, Bool.true_and, Bool.false_and, Bool.and_true, Bool.and_false, reduceCtorEq]) <;> (try omega)]; rfl, rfl⟩, hL⟩)
  · have k11 := j_lt_f (a := q.length) (b := 2) (by omega) (by omega) c11
    refine e_iload_n 15 dX7_areReadParts_14 rfl rfl ?_
    refine e_bipush 17 (v := (nI 7)) dX7_areReadParts_15 rfl (by decide) ?_
    refine e_sipush 20 (v := (nI 245)) dX7_areReadParts_17 rfl (by decide) ?_
    refine p_callS 23 hL [0] 1 rfl (by decide) (L1 := []) (L2 := [row b cb q]) rfl dX7_areReadParts_20 rfl cs_X7_22 (k_X11_within (by omega) (by omega) (by omega)) rfl rfl (Nat.le_of_ble_eq_true rfl) ⟨by decide, by omega, by omega⟩ (fun r1 L1 h q hL => ?_)
    obtain ⟨rfl, rfl⟩ := q
    have hL : stars [row b cb q] h := hL
    refine e_if_eq 43 26 dX7_areReadParts_23 rfl rfl (fun c23 => ?_) (fun c23 => ?_)
    · have k23 := jin_eq_t c23
      refine e_iconst 44 (v := (nI 0)) dX7_areReadParts_43 rfl (by decide) ?_
      exact e_zret dX7_areReadParts_44 rfl (Or.inl (by decide)) (by omega) (by omega) (⟨_, ⟨by rw [show rdP q = false by unfold rdP; (try simp only [Bool.and_eq_true, Bool.or_eq_true, Bool.not_eq_true', Bool.and_eq_false_iff, Bool.or_eq_false_iff, Bool.not_eq_false', decide_eq_true_eq, decide_eq_false_iff_not, Bool.false_or, Bool.true_or, Bool.or_false, Bool.or_true, Bool.not_false, Bool.not_true, Bool.true_and, Bool.false_and, Bool.and_true, Bool.and_false, reduceCtorEq]) <;> (try omega)]; rfl, rfl⟩, hL⟩)
    · have k23 := jin_eq_f c23
      refine e_iload_n 27 dX7_areReadParts_26 rfl rfl ?_
      refine e_bipush 29 (v := (nI 7)) dX7_areReadParts_27 rfl (by decide) ?_
      refine e_irem 30 (v := (nI (q.getD 1 0 % 7))) dX7_areReadParts_29 rfl (by decide) (pk_rem (by omega) (by decide) (by decide)) ?_
      refine e_if_ne 43 33 dX7_areReadParts_30 rfl rfl (fun c30 => ?_) (fun c30 => ?_)
      · have k30 := j_ne0_t (a := (q.getD 1 0 % 7)) (by omega) c30
        refine e_iconst 44 (v := (nI 0)) dX7_areReadParts_43 rfl (by decide) ?_
        exact e_zret dX7_areReadParts_44 rfl (Or.inl (by decide)) (by omega) (by omega) (⟨_, ⟨by rw [show rdP q = false by unfold rdP; (try simp only [Bool.and_eq_true, Bool.or_eq_true, Bool.not_eq_true', Bool.and_eq_false_iff, Bool.or_eq_false_iff, Bool.not_eq_false', decide_eq_true_eq, decide_eq_false_iff_not, Bool.false_or, Bool.true_or, Bool.or_false, Bool.or_true, Bool.not_false, Bool.not_true, Bool.true_and, Bool.false_and, Bool.and_true, Bool.and_false, reduceCtorEq]) <;> (try omega)]; rfl, rfl⟩, hL⟩)
      · have k30 := j_ne0_f (a := (q.getD 1 0 % 7)) (by omega) c30
        refine e_aload_n 34 dX7_areReadParts_33 rfl rfl ?_
        obtain ⟨z34, y34⟩ := row_at _ 0 hL rfl
        refine e_get 37 dX7_areReadParts_34 rfl fl_X7_9_4 y34 rfl ?_
        refine e_iconst 38 (v := (nI 2)) dX7_areReadParts_37 rfl (by decide) ?_
        refine e_isub 39 (v := (nI (q.length - 2))) dX7_areReadParts_38 rfl (pk_sub (by omega)) ?_
        refine e_iload_n 40 dX7_areReadParts_39 rfl rfl ?_
        refine e_icmp_eq 45 43 dX7_areReadParts_40 rfl rfl (fun c40 => ?_) (fun c40 => ?_)
        · have k40 := j_eq_t (a := (q.length - 2)) (b := (q.getD 1 0)) (by omega) (by omega) c40
          refine e_iconst 46 (v := (nI 2)) dX7_areReadParts_45 rfl (by decide) ?_
          refine e_istore_n 47 (ls' := [some (.ref b), some (.int (nI (q.getD 1 0))), some (.int (nI 2)), none]) dX7_areReadParts_46 rfl (by decide) rfl ?_
          refine e_iconst 48 (v := (nI 2)) dX7_areReadParts_47 rfl (by decide) ?_
          refine e_istore_n 49 (ls' := [some (.ref b), some (.int (nI (q.getD 1 0))), some (.int (nI 2)), some (.int (nI 2))]) dX7_areReadParts_48 rfl (by decide) rfl ?_
          exact l_X7_areReadParts hq (by omega) (by omega) (by omega) (by omega) (q.length + 1) 0 h (by omega) (by omega) hL
        · have k40 := j_eq_f (a := (q.length - 2)) (b := (q.getD 1 0)) (by omega) (by omega) c40
          refine e_iconst 44 (v := (nI 0)) dX7_areReadParts_43 rfl (by decide) ?_
          exact e_zret dX7_areReadParts_44 rfl (Or.inl (by decide)) (by omega) (by omega) (⟨_, ⟨by rw [show rdP q = false by unfold rdP; (try simp only [Bool.and_eq_true, Bool.or_eq_true, Bool.not_eq_true', Bool.and_eq_false_iff, Bool.or_eq_false_iff, Bool.not_eq_false', decide_eq_true_eq, decide_eq_false_iff_not, Bool.false_or, Bool.true_or, Bool.or_false, Bool.or_true, Bool.not_false, Bool.not_true, Bool.true_and, Bool.false_and, Bool.and_true, Bool.and_false, reduceCtorEq]) <;> (try omega)]; rfl, rfl⟩, hL⟩)
/-- where the parts end that a request to write files tells -/
def wpE (q : List Nat) : Nat → Nat → Nat
  | 0, i => i
  | k + 1, i => if i + 7 ≤ q.length then wpE q k (i + (7 + 2 * wd q (i + 5))) else i
def wrP (q : List Nat) : Bool := decide (2 ≤ q.length ∧ 9 ≤ q.getD 1 0 ∧ q.getD 1 0 ≤ 251 ∧ q.length - 2 = q.getD 1 0 ∧ wpE q 36 2 = q.length)
set_option maxRecDepth 20000 in
set_option maxHeartbeats 2000000 in
theorem l_X7_areWriteParts {b cb : Nat} {q : List Nat} (hq : ∀ x ∈ q, x < 256) (h2 : 2 ≤ q.length) (h7 : 9 ≤ q.getD 1 0 ∧ q.getD 1 0 ≤ 251) (hl : q.length - 2 = q.getD 1 0) : ∀ (n : Nat) (p t i : Nat) (h : eH), 36 - p < n → p + t = 36 → i ≤ 2 + p * 200000 → wpE q t i = wpE q 36 2 → stars [row b cb q] h → EE mX7_areWriteParts 1 24 0 0 (fun r h' => ∃ L', (r = some (.int (bI (wrP q))) ∧ L' = [row b cb q]) ∧ stars L' h') 44 [some (.ref b), some (.int (nI i)), some (.int (nI p))] [] h 0 0 := by
  intro n
  induction n with
  | zero => intro p t i h hlt hpt hi he hL; exact absurd hlt (by omega)
  | succ n ih =>
    intro p t i h hlt hpt hi he hL
    have hwj := wd_lt (k := i + 5) hq
    refine e_iload_n 45 dX7_areWriteParts_44 rfl rfl ?_
    refine e_bipush 47 (v := (nI 36)) dX7_areWriteParts_45 rfl (by decide) ?_
    refine e_icmp_ge 82 50 dX7_areWriteParts_47 rfl rfl (fun c47 => ?_) (fun c47 => ?_)
    · have k47 := j_ge_t (a := p) (b := 36) (by omega) (by omega) c47
      refine e_iload_n 83 dX7_areWriteParts_82 rfl rfl ?_
      refine e_aload_n 84 dX7_areWriteParts_83 rfl rfl ?_
      obtain ⟨z84, y84⟩ := row_at _ 0 hL rfl
      refine e_get 87 dX7_areWriteParts_84 rfl fl_X7_9_4 y84 rfl ?_
      refine e_icmp_ne 94 90 dX7_areWriteParts_87 rfl rfl (fun c87 => ?_) (fun c87 => ?_)
      · have k87 := j_ne_t (a := i) (b := q.length) (by omega) (by omega) c87
        refine e_iconst 95 (v := (nI 0)) dX7_areWriteParts_94 rfl (by decide) ?_
        exact e_zret dX7_areWriteParts_95 rfl (Or.inl (by decide)) (by omega) (by omega) (⟨_, ⟨by rw [show wrP q = false by unfold wrP; rw [(show wpE q 36 2 = i from by rw [← he, show t = 0 by omega]; rfl)]; (try simp only [Bool.and_eq_true, Bool.or_eq_true, Bool.not_eq_true', Bool.and_eq_false_iff, Bool.or_eq_false_iff, Bool.not_eq_false', decide_eq_true_eq, decide_eq_false_iff_not, Bool.false_or, Bool.true_or, Bool.or_false, Bool.or_true, Bool.not_false, Bool.not_true, Bool.true_and, Bool.false_and, Bool.and_true, Bool.and_false, reduceCtorEq]) <;> (try omega)]; rfl, rfl⟩, hL⟩)
      · have k87 := j_ne_f (a := i) (b := q.length) (by omega) (by omega) c87
        refine e_iconst 91 (v := (nI 1)) dX7_areWriteParts_90 rfl (by decide) ?_
        refine e_goto 95 dX7_areWriteParts_91 rfl ?_
        exact e_zret dX7_areWriteParts_95 rfl (Or.inr (by decide)) (by omega) (by omega) (⟨_, ⟨by rw [show wrP q = true by unfold wrP; rw [(show wpE q 36 2 = i from by rw [← he, show t = 0 by omega]; rfl)]; (try simp only [Bool.and_eq_true, Bool.or_eq_true, Bool.not_eq_true', Bool.and_eq_false_iff, Bool.or_eq_false_iff, Bool.not_eq_false', decide_eq_true_eq, decide_eq_false_iff_not, Bool.false_or, Bool.true_or, Bool.or_false, Bool.or_true, Bool.not_false, Bool.not_true, Bool.true_and, Bool.false_and, Bool.and_true, Bool.and_false, reduceCtorEq]) <;> (try omega)]; rfl, rfl⟩, hL⟩)
    · have k47 := j_ge_f (a := p) (b := 36) (by omega) (by omega) c47
      refine e_iload_n 51 dX7_areWriteParts_50 rfl rfl ?_
      refine e_bipush 53 (v := (nI 7)) dX7_areWriteParts_51 rfl (by decide) ?_
      refine e_iadd 54 (v := (nI (i + 7))) dX7_areWriteParts_53 rfl (nI_add i 7) ?_
      refine e_aload_n 55 dX7_areWriteParts_54 rfl rfl ?_
      obtain ⟨z55, y55⟩ := row_at _ 0 hL rfl
      refine e_get 58 dX7_areWriteParts_55 rfl fl_X7_9_4 y55 rfl ?_
      refine e_icmp_gt 82 61 dX7_areWriteParts_58 rfl rfl (fun c58 => ?_) (fun c58 => ?_)
      · have k58 := j_gt_t (a := (i + 7)) (b := q.length) (by omega) (by omega) c58
        refine e_iload_n 83 dX7_areWriteParts_82 rfl rfl ?_
        refine e_aload_n 84 dX7_areWriteParts_83 rfl rfl ?_
        obtain ⟨z84, y84⟩ := row_at _ 0 hL rfl
        refine e_get 87 dX7_areWriteParts_84 rfl fl_X7_9_4 y84 rfl ?_
        refine e_icmp_ne 94 90 dX7_areWriteParts_87 rfl rfl (fun c87 => ?_) (fun c87 => ?_)
        · have k87 := j_ne_t (a := i) (b := q.length) (by omega) (by omega) c87
          refine e_iconst 95 (v := (nI 0)) dX7_areWriteParts_94 rfl (by decide) ?_
          exact e_zret dX7_areWriteParts_95 rfl (Or.inl (by decide)) (by omega) (by omega) (⟨_, ⟨by rw [show wrP q = false by unfold wrP; rw [(show wpE q 36 2 = i from by rw [← he]; cases t with | zero => rfl | succ t => exact if_neg (by omega))]; (try simp only [Bool.and_eq_true, Bool.or_eq_true, Bool.not_eq_true', Bool.and_eq_false_iff, Bool.or_eq_false_iff, Bool.not_eq_false', decide_eq_true_eq, decide_eq_false_iff_not, Bool.false_or, Bool.true_or, Bool.or_false, Bool.or_true, Bool.not_false, Bool.not_true, Bool.true_and, Bool.false_and, Bool.and_true, Bool.and_false, reduceCtorEq]) <;> (try omega)]; rfl, rfl⟩, hL⟩)
        · have k87 := j_ne_f (a := i) (b := q.length) (by omega) (by omega) c87
          refine e_iconst 91 (v := (nI 1)) dX7_areWriteParts_90 rfl (by decide) ?_
          refine e_goto 95 dX7_areWriteParts_91 rfl ?_
          exact e_zret dX7_areWriteParts_95 rfl (Or.inr (by decide)) (by omega) (by omega) (⟨_, ⟨by rw [show wrP q = true by unfold wrP; rw [(show wpE q 36 2 = i from by rw [← he]; cases t with | zero => rfl | succ t => exact if_neg (by omega))]; (try simp only [Bool.and_eq_true, Bool.or_eq_true, Bool.not_eq_true', Bool.and_eq_false_iff, Bool.or_eq_false_iff, Bool.not_eq_false', decide_eq_true_eq, decide_eq_false_iff_not, Bool.false_or, Bool.true_or, Bool.or_false, Bool.or_true, Bool.not_false, Bool.not_true, Bool.true_and, Bool.false_and, Bool.and_true, Bool.and_false, reduceCtorEq]) <;> (try omega)]; rfl, rfl⟩, hL⟩)
      · have k58 := j_gt_f (a := (i + 7)) (b := q.length) (by omega) (by omega) c58
        refine e_iload_n 62 dX7_areWriteParts_61 rfl rfl ?_
        refine e_bipush 64 (v := (nI 7)) dX7_areWriteParts_62 rfl (by decide) ?_
        refine e_iconst 65 (v := (nI 2)) dX7_areWriteParts_64 rfl (by decide) ?_
        refine e_aload_n 66 dX7_areWriteParts_65 rfl rfl ?_
        refine e_iload_n 67 dX7_areWriteParts_66 rfl rfl ?_
        refine e_iconst 68 (v := (nI 5)) dX7_areWriteParts_67 rfl (by decide) ?_
        refine e_iadd 69 (v := (nI (i + 5))) dX7_areWriteParts_68 rfl (nI_add i 5) ?_
        refine p_callV 72 hL [0] 1 rfl (by decide) (L1 := [row b cb q]) (L2 := []) rfl row_O 0 rfl dX7_areWriteParts_69 rfl cv_X7_19 (k_X4_word (by omega)) rfl rfl (Nat.le_of_ble_eq_true rfl) ⟨by decide, by omega, by omega⟩ (fun r1 L1 h q hL => ?_)
        obtain ⟨rfl, rfl⟩ := q
        have hL : stars [row b cb q] h := hL
        refine e_imul 73 (v := (nI (2 * (wd q (i + 5))))) dX7_areWriteParts_72 rfl (pk_mul 2 (wd q (i + 5))) ?_
        refine e_iadd 74 (v := (nI (7 + (2 * (wd q (i + 5)))))) dX7_areWriteParts_73 rfl (nI_add 7 (2 * (wd q (i + 5)))) ?_
        refine e_iadd 75 (v := (nI (i + (7 + (2 * (wd q (i + 5))))))) dX7_areWriteParts_74 rfl (nI_add i (7 + (2 * (wd q (i + 5))))) ?_
        refine e_istore_n 76 (ls' := [some (.ref b), some (.int (nI (i + (7 + (2 * (wd q (i + 5))))))), some (.int (nI p))]) dX7_areWriteParts_75 rfl (by decide) rfl ?_
        refine e_iinc 79 (v := (nI (p + 1))) (ls' := [some (.ref b), some (.int (nI (i + (7 + (2 * (wd q (i + 5))))))), some (.int (nI (p + 1)))]) dX7_areWriteParts_76 rfl rfl (nI_add p 1) (by decide) rfl ?_
        refine e_goto 44 dX7_areWriteParts_79 rfl ?_
        obtain ⟨t, rfl⟩ : ∃ t1, t = t1 + 1 := ⟨t - 1, by omega⟩
        exact ih (p + 1) t (i + (7 + 2 * wd q (i + 5))) h (by omega) (by omega) (by omega) (by rw [← he, wpE, if_pos (by omega)]) hL
set_option maxRecDepth 20000 in
set_option maxHeartbeats 2000000 in
/-- areWriteParts(q) -/
theorem k_X7_areWriteParts {b cb : Nat} {q : List Nat} (hq : ∀ x ∈ q, x < 256) : CA mX7_areWriteParts [.ref b] [row b cb q] (fun r L => r = some (.int (bI (wrP q))) ∧ L = [row b cb q]) 1 24 0 0 := by
  refine CA.mk 2 (ls := [some (.ref b), none, none]) rfl rfl (Nat.le_of_ble_eq_true rfl) rfl (fun h hL => ?_)
  have hlen := row_len _ 0 hL rfl
  have w1 := wd_lt (k := 1) hq
  have w3 := wd_lt (k := 3) hq
  have w7 := wd_lt (k := 7) hq
  have g0 := gd_lt (i := 0) hq (by decide)
  have g1 := gd_lt (i := 1) hq (by decide)
  have g2 := gd_lt (i := 2) hq (by decide)
  have g5 := gd_lt (i := 5) hq (by decide)
  have g9 := gd_lt (i := 9) hq (by decide)
  refine e_aload_n 1 dX7_areWriteParts_0 rfl rfl ?_
  obtain ⟨z1, y1⟩ := row_at _ 0 hL rfl
  refine e_get 4 dX7_areWriteParts_1 rfl fl_X7_9_4 y1 rfl ?_
  refine e_iconst 5 (v := (nI 2)) dX7_areWriteParts_4 rfl (by decide) ?_
  refine e_icmp_lt 38 8 dX7_areWriteParts_5 rfl rfl (fun c5 => ?_) (fun c5 => ?_)
  · have k5 := j_lt_t (a := q.length) (b := 2) (by omega) (by omega) c5
    refine e_iconst 39 (v := (nI 0)) dX7_areWriteParts_38 rfl (by decide) ?_
    exact e_zret dX7_areWriteParts_39 rfl (Or.inl (by decide)) (by omega) (by omega) (⟨_, ⟨by rw [show wrP q = false by unfold wrP; (try simp only [Bool.and_eq_true, Bool.or_eq_true, Bool.not_eq_true', Bool.and_eq_false_iff, Bool.or_eq_false_iff, Bool.not_eq_false', decide_eq_true_eq, decide_eq_false_iff_not, Bool.false_or, Bool.true_or, Bool.or_false, Bool.or_true, Bool.not_false, Bool.not_true, Bool.true_and, Bool.false_and, Bool.and_true, Bool.and_false, reduceCtorEq]) <;> (try omega)]; rfl, rfl⟩, hL⟩)
  · have k5 := j_lt_f (a := q.length) (b := 2) (by omega) (by omega) c5
    refine e_aload_n 9 dX7_areWriteParts_8 rfl rfl ?_
    refine e_iconst 10 (v := (nI 1)) dX7_areWriteParts_9 rfl (by decide) ?_
    refine p_callV 13 hL [0] 1 rfl (by decide) (L1 := [row b cb q]) (L2 := []) rfl row_O 0 rfl dX7_areWriteParts_10 rfl cv_X7_15 (k_X4_at (by omega)) rfl rfl (Nat.le_of_ble_eq_true rfl) ⟨by decide, by omega, by omega⟩ (fun r1 L1 h q hL => ?_)
    obtain ⟨rfl, rfl⟩ := q
    have hL : stars [row b cb q] h := hL
    refine e_bipush 15 (v := (nI 9)) dX7_areWriteParts_13 rfl (by decide) ?_
    refine e_sipush 18 (v := (nI 251)) dX7_areWriteParts_15 rfl (by decide) ?_
    refine p_callS 21 hL [0] 1 rfl (by decide) (L1 := []) (L2 := [row b cb q]) rfl dX7_areWriteParts_18 rfl cs_X7_22 (k_X11_within (by omega) (by omega) (by omega)) rfl rfl (Nat.le_of_ble_eq_true rfl) ⟨by decide, by omega, by omega⟩ (fun r1 L1 h q hL => ?_)
    obtain ⟨rfl, rfl⟩ := q
    have hL : stars [row b cb q] h := hL
    refine e_if_eq 38 24 dX7_areWriteParts_21 rfl rfl (fun c21 => ?_) (fun c21 => ?_)
    · have k21 := jin_eq_t c21
      refine e_iconst 39 (v := (nI 0)) dX7_areWriteParts_38 rfl (by decide) ?_
      exact e_zret dX7_areWriteParts_39 rfl (Or.inl (by decide)) (by omega) (by omega) (⟨_, ⟨by rw [show wrP q = false by unfold wrP; (try simp only [Bool.and_eq_true, Bool.or_eq_true, Bool.not_eq_true', Bool.and_eq_false_iff, Bool.or_eq_false_iff, Bool.not_eq_false', decide_eq_true_eq, decide_eq_false_iff_not, Bool.false_or, Bool.true_or, Bool.or_false, Bool.or_true, Bool.not_false, Bool.not_true, Bool.true_and, Bool.false_and, Bool.and_true, Bool.and_false, reduceCtorEq]) <;> (try omega)]; rfl, rfl⟩, hL⟩)
    · have k21 := jin_eq_f c21
      refine e_aload_n 25 dX7_areWriteParts_24 rfl rfl ?_
      obtain ⟨z25, y25⟩ := row_at _ 0 hL rfl
      refine e_get 28 dX7_areWriteParts_25 rfl fl_X7_9_4 y25 rfl ?_
      refine e_iconst 29 (v := (nI 2)) dX7_areWriteParts_28 rfl (by decide) ?_
      refine e_isub 30 (v := (nI (q.length - 2))) dX7_areWriteParts_29 rfl (pk_sub (by omega)) ?_
      refine e_aload_n 31 dX7_areWriteParts_30 rfl rfl ?_
      refine e_iconst 32 (v := (nI 1)) dX7_areWriteParts_31 rfl (by decide) ?_
      refine p_callV 35 hL [0] 1 rfl (by decide) (L1 := [row b cb q]) (L2 := []) rfl row_O 0 rfl dX7_areWriteParts_32 rfl cv_X7_15 (k_X4_at (by omega)) rfl rfl (Nat.le_of_ble_eq_true rfl) ⟨by decide, by omega, by omega⟩ (fun r1 L1 h q hL => ?_)
      obtain ⟨rfl, rfl⟩ := q
      have hL : stars [row b cb q] h := hL
      refine e_icmp_eq 40 38 dX7_areWriteParts_35 rfl rfl (fun c35 => ?_) (fun c35 => ?_)
      · have k35 := j_eq_t (a := (q.length - 2)) (b := (q.getD 1 0)) (by omega) (by omega) c35
        refine e_iconst 41 (v := (nI 2)) dX7_areWriteParts_40 rfl (by decide) ?_
        refine e_istore_n 42 (ls' := [some (.ref b), some (.int (nI 2)), none]) dX7_areWriteParts_41 rfl (by decide) rfl ?_
        refine e_iconst 43 (v := (nI 0)) dX7_areWriteParts_42 rfl (by decide) ?_
        refine e_istore_n 44 (ls' := [some (.ref b), some (.int (nI 2)), some (.int (nI 0))]) dX7_areWriteParts_43 rfl (by decide) rfl ?_
        exact l_X7_areWriteParts hq (by omega) (by omega) (by omega) 37 0 36 2 h (by omega) (by omega) (by omega) rfl hL
      · have k35 := j_eq_f (a := (q.length - 2)) (b := (q.getD 1 0)) (by omega) (by omega) c35
        refine e_iconst 39 (v := (nI 0)) dX7_areWriteParts_38 rfl (by decide) ?_
        exact e_zret dX7_areWriteParts_39 rfl (Or.inl (by decide)) (by omega) (by omega) (⟨_, ⟨by rw [show wrP q = false by unfold wrP; (try simp only [Bool.and_eq_true, Bool.or_eq_true, Bool.not_eq_true', Bool.and_eq_false_iff, Bool.or_eq_false_iff, Bool.not_eq_false', decide_eq_true_eq, decide_eq_false_iff_not, Bool.false_or, Bool.true_or, Bool.or_false, Bool.or_true, Bool.not_false, Bool.not_true, Bool.true_and, Bool.false_and, Bool.and_true, Bool.and_false, reduceCtorEq]) <;> (try omega)]; rfl, rfl⟩, hL⟩)
/-- the code of what is wrong with a request's form; 0 without one -/
def shF (q : List Nat) : Nat :=
  if q.getD 0 0 = 1 ∨ q.getD 0 0 = 2 then (if q.length = 5 ∧ 1 ≤ wd q 3 ∧ wd q 3 ≤ 2000 then 0 else 3)
  else if q.getD 0 0 = 3 ∨ q.getD 0 0 = 4 then (if q.length = 5 ∧ 1 ≤ wd q 3 ∧ wd q 3 ≤ 125 then 0 else 3)
  else if q.getD 0 0 = 5 ∨ q.getD 0 0 = 6 then (if q.length = 5 then 0 else 3)
  else if q.getD 0 0 = 7 ∨ q.getD 0 0 = 11 ∨ q.getD 0 0 = 12 ∨ q.getD 0 0 = 17 then (if q.length = 1 then 0 else 3)
  else if q.getD 0 0 = 8 then dgF q
  else if q.getD 0 0 = 15 then (if 6 ≤ q.length ∧ 1 ≤ wd q 3 ∧ wd q 3 ≤ 1968 ∧ q.getD 5 0 = (wd q 3 + 7) / 8 ∧ q.length = 6 + q.getD 5 0 then 0 else 3)
  else if q.getD 0 0 = 16 then (if 6 ≤ q.length ∧ 1 ≤ wd q 3 ∧ wd q 3 ≤ 123 ∧ q.getD 5 0 = 2 * wd q 3 ∧ q.length = 6 + q.getD 5 0 then 0 else 3)
  else if q.getD 0 0 = 20 then cuF (rdP q)
  else if q.getD 0 0 = 21 then cuF (wrP q)
  else if q.getD 0 0 = 22 then (if q.length = 7 then 0 else 3)
  else if q.getD 0 0 = 23 then (if 10 ≤ q.length ∧ 1 ≤ wd q 3 ∧ wd q 3 ≤ 125 ∧ 1 ≤ wd q 7 ∧ wd q 7 ≤ 121 ∧ q.getD 9 0 = 2 * wd q 7 ∧ q.length = 10 + q.getD 9 0 then 0 else 3)
  else if q.getD 0 0 = 24 then (if q.length = 3 then 0 else 3)
  else if q.getD 0 0 = 43 then txF q
  else 1
set_option maxRecDepth 20000 in
set_option maxHeartbeats 2000000 in
/-- fault(q) -/
theorem k_X7_fault {b cb : Nat} {q : List Nat} (hq : ∀ x ∈ q, x < 256) (h1 : 1 ≤ q.length) : CA mX7_fault [.ref b] [row b cb q] (fun r L => r = some (.int (nI (shF q))) ∧ L = [row b cb q]) 2 47 0 0 := by
  refine CA.mk 1 (ls := [some (.ref b), none]) rfl rfl (Nat.le_of_ble_eq_true rfl) rfl (fun h hL => ?_)
  have hlen := row_len _ 0 hL rfl
  have w1 := wd_lt (k := 1) hq
  have w3 := wd_lt (k := 3) hq
  have w7 := wd_lt (k := 7) hq
  have g0 := gd_lt (i := 0) hq (by decide)
  have g1 := gd_lt (i := 1) hq (by decide)
  have g2 := gd_lt (i := 2) hq (by decide)
  have g5 := gd_lt (i := 5) hq (by decide)
  have g9 := gd_lt (i := 9) hq (by decide)
  refine e_aload_n 1 dX7_fault_0 rfl rfl ?_
  obtain ⟨z1, y1⟩ := row_at _ 0 hL rfl
  refine e_get 4 dX7_fault_1 rfl fl_X7_9_4 y1 rfl ?_
  refine e_iconst 5 (v := (nI 1)) dX7_fault_4 rfl (by decide) ?_
  refine e_isub 6 (v := (nI (q.length - 1))) dX7_fault_5 rfl (pk_sub (by omega)) ?_
  refine e_istore_n 7 (ls' := [some (.ref b), some (.int (nI (q.length - 1)))]) dX7_fault_6 rfl (by decide) rfl ?_
  refine e_aload_n 8 dX7_fault_7 rfl rfl ?_
  refine e_iconst 9 (v := (nI 0)) dX7_fault_8 rfl (by decide) ?_
  refine p_callV 12 hL [0] 1 rfl (by decide) (L1 := [row b cb q]) (L2 := []) rfl row_O 0 rfl dX7_fault_9 rfl cv_X7_15 (k_X4_at (by omega)) rfl rfl (Nat.le_of_ble_eq_true rfl) ⟨by decide, by omega, by omega⟩ (fun r1 L1 h q hL => ?_)
  obtain ⟨rfl, rfl⟩ := q
  have hL : stars [row b cb q] h := hL
  rcases (show ((q.getD 0 0) < 1 ∨ 43 < (q.getD 0 0)) ∨ ((q.getD 0 0) = 1 ∨ (q.getD 0 0) = 2) ∨ ((q.getD 0 0) = 3 ∨ (q.getD 0 0) = 4) ∨ ((q.getD 0 0) = 5 ∨ (q.getD 0 0) = 6) ∨ ((q.getD 0 0) = 7 ∨ (q.getD 0 0) = 11 ∨ (q.getD 0 0) = 12 ∨ (q.getD 0 0) = 17) ∨ ((q.getD 0 0) = 8) ∨ ((q.getD 0 0) = 9 ∨ (q.getD 0 0) = 10 ∨ (q.getD 0 0) = 13 ∨ (q.getD 0 0) = 14 ∨ (q.getD 0 0) = 18 ∨ (q.getD 0 0) = 19 ∨ (q.getD 0 0) = 25 ∨ (q.getD 0 0) = 26 ∨ (q.getD 0 0) = 27 ∨ (q.getD 0 0) = 28 ∨ (q.getD 0 0) = 29 ∨ (q.getD 0 0) = 30 ∨ (q.getD 0 0) = 31 ∨ (q.getD 0 0) = 32 ∨ (q.getD 0 0) = 33 ∨ (q.getD 0 0) = 34 ∨ (q.getD 0 0) = 35 ∨ (q.getD 0 0) = 36 ∨ (q.getD 0 0) = 37 ∨ (q.getD 0 0) = 38 ∨ (q.getD 0 0) = 39 ∨ (q.getD 0 0) = 40 ∨ (q.getD 0 0) = 41 ∨ (q.getD 0 0) = 42) ∨ ((q.getD 0 0) = 15) ∨ ((q.getD 0 0) = 16) ∨ ((q.getD 0 0) = 20) ∨ ((q.getD 0 0) = 21) ∨ ((q.getD 0 0) = 22) ∨ ((q.getD 0 0) = 23) ∨ ((q.getD 0 0) = 24) ∨ ((q.getD 0 0) = 43) by omega) with s12 | s12 | s12 | s12 | s12 | s12 | s12 | s12 | s12 | s12 | s12 | s12 | s12 | s12 | s12
  · refine e_tableOut 526 dX7_fault_12 (by rw [nI_toInt (by omega)]; omega) rfl ?_
    refine e_iconst 527 (v := (nI 1)) dX7_fault_526 rfl (by decide) ?_
    exact e_iret dX7_fault_527 rfl (by omega) (by omega) (⟨_, ⟨by (rw [shF, if_neg (by omega), if_neg (by omega), if_neg (by omega), if_neg (by omega), if_neg (by omega), if_neg (by omega), if_neg (by omega), if_neg (by omega), if_neg (by omega), if_neg (by omega), if_neg (by omega), if_neg (by omega), if_neg (by omega)]) <;> rfl, rfl⟩, hL⟩)
  · refine e_tableIn 200 (off := 188) dX7_fault_12 (by rw [nI_toInt (by omega)]; omega) (by rw [nI_toInt (by omega)]; omega) (by rcases s12 with s12 | s12 <;> rw [s12] <;> decide) rfl ?_
    refine e_iload_n 201 dX7_fault_200 rfl rfl ?_
    refine e_iconst 202 (v := (nI 4)) dX7_fault_201 rfl (by decide) ?_
    refine e_icmp_ne 224 205 dX7_fault_202 rfl rfl (fun c202 => ?_) (fun c202 => ?_)
    · have k202 := j_ne_t (a := (q.length - 1)) (b := 4) (by omega) (by omega) c202
      refine e_iconst 225 (v := (nI 0)) dX7_fault_224 rfl (by decide) ?_
      refine p_callS 228 hL [0] 1 rfl (by decide) (L1 := []) (L2 := [row b cb q]) rfl dX7_fault_225 rfl cs_X7_26 (k_X7_codeUnless (b := false)) rfl rfl (Nat.le_of_ble_eq_true rfl) ⟨by decide, by omega, by omega⟩ (fun r1 L1 h q hL => ?_)
      obtain ⟨rfl, rfl⟩ := q
      have hL : stars [row b cb q] h := hL
      exact e_iret dX7_fault_228 rfl (by omega) (by omega) (⟨_, ⟨by (rw [shF, if_pos (by omega), if_neg (by omega)]) <;> rfl, rfl⟩, hL⟩)
    · have k202 := j_ne_f (a := (q.length - 1)) (b := 4) (by omega) (by omega) c202
      refine e_aload_n 206 dX7_fault_205 rfl rfl ?_
      refine e_iconst 207 (v := (nI 3)) dX7_fault_206 rfl (by decide) ?_
      refine p_callV 210 hL [0] 1 rfl (by decide) (L1 := [row b cb q]) (L2 := []) rfl row_O 0 rfl dX7_fault_207 rfl cv_X7_19 (k_X4_word (by omega)) rfl rfl (Nat.le_of_ble_eq_true rfl) ⟨by decide, by omega, by omega⟩ (fun r1 L1 h q hL => ?_)
      obtain ⟨rfl, rfl⟩ := q
      have hL : stars [row b cb q] h := hL
      refine e_iconst 211 (v := (nI 1)) dX7_fault_210 rfl (by decide) ?_
      refine e_sipush 214 (v := (nI 2000)) dX7_fault_211 rfl (by decide) ?_
      refine p_callS 217 hL [0] 1 rfl (by decide) (L1 := []) (L2 := [row b cb q]) rfl dX7_fault_214 rfl cs_X7_22 (k_X11_within (by omega) (by omega) (by omega)) rfl rfl (Nat.le_of_ble_eq_true rfl) ⟨by decide, by omega, by omega⟩ (fun r1 L1 h q hL => ?_)
      obtain ⟨rfl, rfl⟩ := q
      have hL : stars [row b cb q] h := hL
      refine e_if_eq 224 220 dX7_fault_217 rfl rfl (fun c217 => ?_) (fun c217 => ?_)
      · have k217 := jin_eq_t c217
        refine e_iconst 225 (v := (nI 0)) dX7_fault_224 rfl (by decide) ?_
        refine p_callS 228 hL [0] 1 rfl (by decide) (L1 := []) (L2 := [row b cb q]) rfl dX7_fault_225 rfl cs_X7_26 (k_X7_codeUnless (b := false)) rfl rfl (Nat.le_of_ble_eq_true rfl) ⟨by decide, by omega, by omega⟩ (fun r1 L1 h q hL => ?_)
        obtain ⟨rfl, rfl⟩ := q
        have hL : stars [row b cb q] h := hL
        exact e_iret dX7_fault_228 rfl (by omega) (by omega) (⟨_, ⟨by (rw [shF, if_pos (by omega), if_neg (by omega)]) <;> rfl, rfl⟩, hL⟩)
      · have k217 := jin_eq_f c217
        refine e_iconst 221 (v := (nI 1)) dX7_fault_220 rfl (by decide) ?_
        refine e_goto 225 dX7_fault_221 rfl ?_
        refine p_callS 228 hL [0] 1 rfl (by decide) (L1 := []) (L2 := [row b cb q]) rfl dX7_fault_225 rfl cs_X7_26 (k_X7_codeUnless (b := true)) rfl rfl (Nat.le_of_ble_eq_true rfl) ⟨by decide, by omega, by omega⟩ (fun r1 L1 h q hL => ?_)
        obtain ⟨rfl, rfl⟩ := q
        have hL : stars [row b cb q] h := hL
        exact e_iret dX7_fault_228 rfl (by omega) (by omega) (⟨_, ⟨by (rw [shF, if_pos (by omega), if_pos (by omega)]) <;> rfl, rfl⟩, hL⟩)
  · refine e_tableIn 229 (off := 217) dX7_fault_12 (by rw [nI_toInt (by omega)]; omega) (by rw [nI_toInt (by omega)]; omega) (by rcases s12 with s12 | s12 <;> rw [s12] <;> decide) rfl ?_
    refine e_iload_n 230 dX7_fault_229 rfl rfl ?_
    refine e_iconst 231 (v := (nI 4)) dX7_fault_230 rfl (by decide) ?_
    refine e_icmp_ne 252 234 dX7_fault_231 rfl rfl (fun c231 => ?_) (fun c231 => ?_)
    · have k231 := j_ne_t (a := (q.length - 1)) (b := 4) (by omega) (by omega) c231
      refine e_iconst 253 (v := (nI 0)) dX7_fault_252 rfl (by decide) ?_
      refine p_callS 256 hL [0] 1 rfl (by decide) (L1 := []) (L2 := [row b cb q]) rfl dX7_fault_253 rfl cs_X7_26 (k_X7_codeUnless (b := false)) rfl rfl (Nat.le_of_ble_eq_true rfl) ⟨by decide, by omega, by omega⟩ (fun r1 L1 h q hL => ?_)
      obtain ⟨rfl, rfl⟩ := q
      have hL : stars [row b cb q] h := hL
      exact e_iret dX7_fault_256 rfl (by omega) (by omega) (⟨_, ⟨by (rw [shF, if_neg (by omega), if_pos (by omega), if_neg (by omega)]) <;> rfl, rfl⟩, hL⟩)
    · have k231 := j_ne_f (a := (q.length - 1)) (b := 4) (by omega) (by omega) c231
      refine e_aload_n 235 dX7_fault_234 rfl rfl ?_
      refine e_iconst 236 (v := (nI 3)) dX7_fault_235 rfl (by decide) ?_
      refine p_callV 239 hL [0] 1 rfl (by decide) (L1 := [row b cb q]) (L2 := []) rfl row_O 0 rfl dX7_fault_236 rfl cv_X7_19 (k_X4_word (by omega)) rfl rfl (Nat.le_of_ble_eq_true rfl) ⟨by decide, by omega, by omega⟩ (fun r1 L1 h q hL => ?_)
      obtain ⟨rfl, rfl⟩ := q
      have hL : stars [row b cb q] h := hL
      refine e_iconst 240 (v := (nI 1)) dX7_fault_239 rfl (by decide) ?_
      refine e_bipush 242 (v := (nI 125)) dX7_fault_240 rfl (by decide) ?_
      refine p_callS 245 hL [0] 1 rfl (by decide) (L1 := []) (L2 := [row b cb q]) rfl dX7_fault_242 rfl cs_X7_22 (k_X11_within (by omega) (by omega) (by omega)) rfl rfl (Nat.le_of_ble_eq_true rfl) ⟨by decide, by omega, by omega⟩ (fun r1 L1 h q hL => ?_)
      obtain ⟨rfl, rfl⟩ := q
      have hL : stars [row b cb q] h := hL
      refine e_if_eq 252 248 dX7_fault_245 rfl rfl (fun c245 => ?_) (fun c245 => ?_)
      · have k245 := jin_eq_t c245
        refine e_iconst 253 (v := (nI 0)) dX7_fault_252 rfl (by decide) ?_
        refine p_callS 256 hL [0] 1 rfl (by decide) (L1 := []) (L2 := [row b cb q]) rfl dX7_fault_253 rfl cs_X7_26 (k_X7_codeUnless (b := false)) rfl rfl (Nat.le_of_ble_eq_true rfl) ⟨by decide, by omega, by omega⟩ (fun r1 L1 h q hL => ?_)
        obtain ⟨rfl, rfl⟩ := q
        have hL : stars [row b cb q] h := hL
        exact e_iret dX7_fault_256 rfl (by omega) (by omega) (⟨_, ⟨by (rw [shF, if_neg (by omega), if_pos (by omega), if_neg (by omega)]) <;> rfl, rfl⟩, hL⟩)
      · have k245 := jin_eq_f c245
        refine e_iconst 249 (v := (nI 1)) dX7_fault_248 rfl (by decide) ?_
        refine e_goto 253 dX7_fault_249 rfl ?_
        refine p_callS 256 hL [0] 1 rfl (by decide) (L1 := []) (L2 := [row b cb q]) rfl dX7_fault_253 rfl cs_X7_26 (k_X7_codeUnless (b := true)) rfl rfl (Nat.le_of_ble_eq_true rfl) ⟨by decide, by omega, by omega⟩ (fun r1 L1 h q hL => ?_)
        obtain ⟨rfl, rfl⟩ := q
        have hL : stars [row b cb q] h := hL
        exact e_iret dX7_fault_256 rfl (by omega) (by omega) (⟨_, ⟨by (rw [shF, if_neg (by omega), if_pos (by omega), if_pos (by omega)]) <;> rfl, rfl⟩, hL⟩)
  · refine e_tableIn 257 (off := 245) dX7_fault_12 (by rw [nI_toInt (by omega)]; omega) (by rw [nI_toInt (by omega)]; omega) (by rcases s12 with s12 | s12 <;> rw [s12] <;> decide) rfl ?_
    refine e_iload_n 258 dX7_fault_257 rfl rfl ?_
    refine e_iconst 259 (v := (nI 4)) dX7_fault_258 rfl (by decide) ?_
    refine e_icmp_ne 266 262 dX7_fault_259 rfl rfl (fun c259 => ?_) (fun c259 => ?_)
    · have k259 := j_ne_t (a := (q.length - 1)) (b := 4) (by omega) (by omega) c259
      refine e_iconst 267 (v := (nI 0)) dX7_fault_266 rfl (by decide) ?_
      refine p_callS 270 hL [0] 1 rfl (by decide) (L1 := []) (L2 := [row b cb q]) rfl dX7_fault_267 rfl cs_X7_26 (k_X7_codeUnless (b := false)) rfl rfl (Nat.le_of_ble_eq_true rfl) ⟨by decide, by omega, by omega⟩ (fun r1 L1 h q hL => ?_)
      obtain ⟨rfl, rfl⟩ := q
      have hL : stars [row b cb q] h := hL
      exact e_iret dX7_fault_270 rfl (by omega) (by omega) (⟨_, ⟨by (rw [shF, if_neg (by omega), if_neg (by omega), if_pos (by omega), if_neg (by omega)]) <;> rfl, rfl⟩, hL⟩)
    · have k259 := j_ne_f (a := (q.length - 1)) (b := 4) (by omega) (by omega) c259
      refine e_iconst 263 (v := (nI 1)) dX7_fault_262 rfl (by decide) ?_
      refine e_goto 267 dX7_fault_263 rfl ?_
      refine p_callS 270 hL [0] 1 rfl (by decide) (L1 := []) (L2 := [row b cb q]) rfl dX7_fault_267 rfl cs_X7_26 (k_X7_codeUnless (b := true)) rfl rfl (Nat.le_of_ble_eq_true rfl) ⟨by decide, by omega, by omega⟩ (fun r1 L1 h q hL => ?_)
      obtain ⟨rfl, rfl⟩ := q
      have hL : stars [row b cb q] h := hL
      exact e_iret dX7_fault_270 rfl (by omega) (by omega) (⟨_, ⟨by (rw [shF, if_neg (by omega), if_neg (by omega), if_pos (by omega), if_pos (by omega)]) <;> rfl, rfl⟩, hL⟩)
  · refine e_tableIn 271 (off := 259) dX7_fault_12 (by rw [nI_toInt (by omega)]; omega) (by rw [nI_toInt (by omega)]; omega) (by rcases s12 with s12 | s12 | s12 | s12 <;> rw [s12] <;> decide) rfl ?_
    refine e_iload_n 272 dX7_fault_271 rfl rfl ?_
    refine e_if_ne 279 275 dX7_fault_272 rfl rfl (fun c272 => ?_) (fun c272 => ?_)
    · have k272 := j_ne0_t (a := (q.length - 1)) (by omega) c272
      refine e_iconst 280 (v := (nI 0)) dX7_fault_279 rfl (by decide) ?_
      refine p_callS 283 hL [0] 1 rfl (by decide) (L1 := []) (L2 := [row b cb q]) rfl dX7_fault_280 rfl cs_X7_26 (k_X7_codeUnless (b := false)) rfl rfl (Nat.le_of_ble_eq_true rfl) ⟨by decide, by omega, by omega⟩ (fun r1 L1 h q hL => ?_)
      obtain ⟨rfl, rfl⟩ := q
      have hL : stars [row b cb q] h := hL
      exact e_iret dX7_fault_283 rfl (by omega) (by omega) (⟨_, ⟨by (rw [shF, if_neg (by omega), if_neg (by omega), if_neg (by omega), if_pos (by omega), if_neg (by omega)]) <;> rfl, rfl⟩, hL⟩)
    · have k272 := j_ne0_f (a := (q.length - 1)) (by omega) c272
      refine e_iconst 276 (v := (nI 1)) dX7_fault_275 rfl (by decide) ?_
      refine e_goto 280 dX7_fault_276 rfl ?_
      refine p_callS 283 hL [0] 1 rfl (by decide) (L1 := []) (L2 := [row b cb q]) rfl dX7_fault_280 rfl cs_X7_26 (k_X7_codeUnless (b := true)) rfl rfl (Nat.le_of_ble_eq_true rfl) ⟨by decide, by omega, by omega⟩ (fun r1 L1 h q hL => ?_)
      obtain ⟨rfl, rfl⟩ := q
      have hL : stars [row b cb q] h := hL
      exact e_iret dX7_fault_283 rfl (by omega) (by omega) (⟨_, ⟨by (rw [shF, if_neg (by omega), if_neg (by omega), if_neg (by omega), if_pos (by omega), if_pos (by omega)]) <;> rfl, rfl⟩, hL⟩)
  · refine e_tableIn 284 (off := 272) dX7_fault_12 (by rw [nI_toInt (by omega)]; omega) (by rw [nI_toInt (by omega)]; omega) (by rw [s12]; decide) rfl ?_
    refine e_aload_n 285 dX7_fault_284 rfl rfl ?_
    refine p_callS 288 hL [0] 1 rfl (by decide) (L1 := [row b cb q]) (L2 := []) rfl dX7_fault_285 rfl cs_X7_32 (k_X7_diagnosisFault hq) rfl rfl (Nat.le_of_ble_eq_true rfl) ⟨by decide, by omega, by omega⟩ (fun r1 L1 h q hL => ?_)
    obtain ⟨rfl, rfl⟩ := q
    have hL : stars [row b cb q] h := hL
    exact e_iret dX7_fault_288 rfl (by omega) (by omega) (⟨_, ⟨by (rw [shF, if_neg (by omega), if_neg (by omega), if_neg (by omega), if_neg (by omega), if_pos (by omega)]) <;> rfl, rfl⟩, hL⟩)
  · refine e_tableIn 526 (off := 514) dX7_fault_12 (by rw [nI_toInt (by omega)]; omega) (by rw [nI_toInt (by omega)]; omega) (by rcases s12 with s12 | s12 | s12 | s12 | s12 | s12 | s12 | s12 | s12 | s12 | s12 | s12 | s12 | s12 | s12 | s12 | s12 | s12 | s12 | s12 | s12 | s12 | s12 | s12 <;> rw [s12] <;> decide) rfl ?_
    refine e_iconst 527 (v := (nI 1)) dX7_fault_526 rfl (by decide) ?_
    exact e_iret dX7_fault_527 rfl (by omega) (by omega) (⟨_, ⟨by (rw [shF, if_neg (by omega), if_neg (by omega), if_neg (by omega), if_neg (by omega), if_neg (by omega), if_neg (by omega), if_neg (by omega), if_neg (by omega), if_neg (by omega), if_neg (by omega), if_neg (by omega), if_neg (by omega), if_neg (by omega)]) <;> rfl, rfl⟩, hL⟩)
  · refine e_tableIn 289 (off := 277) dX7_fault_12 (by rw [nI_toInt (by omega)]; omega) (by rw [nI_toInt (by omega)]; omega) (by rw [s12]; decide) rfl ?_
    refine e_iload_n 290 dX7_fault_289 rfl rfl ?_
    refine e_iconst 291 (v := (nI 5)) dX7_fault_290 rfl (by decide) ?_
    refine e_icmp_lt 343 294 dX7_fault_291 rfl rfl (fun c291 => ?_) (fun c291 => ?_)
    · have k291 := j_lt_t (a := (q.length - 1)) (b := 5) (by omega) (by omega) c291
      refine e_iconst 344 (v := (nI 0)) dX7_fault_343 rfl (by decide) ?_
      refine p_callS 347 hL [0] 1 rfl (by decide) (L1 := []) (L2 := [row b cb q]) rfl dX7_fault_344 rfl cs_X7_26 (k_X7_codeUnless (b := false)) rfl rfl (Nat.le_of_ble_eq_true rfl) ⟨by decide, by omega, by omega⟩ (fun r1 L1 h q hL => ?_)
      obtain ⟨rfl, rfl⟩ := q
      have hL : stars [row b cb q] h := hL
      exact e_iret dX7_fault_347 rfl (by omega) (by omega) (⟨_, ⟨by (rw [shF, if_neg (by omega), if_neg (by omega), if_neg (by omega), if_neg (by omega), if_neg (by omega), if_pos (by omega), if_neg (by omega)]) <;> rfl, rfl⟩, hL⟩)
    · have k291 := j_lt_f (a := (q.length - 1)) (b := 5) (by omega) (by omega) c291
      refine e_aload_n 295 dX7_fault_294 rfl rfl ?_
      refine e_iconst 296 (v := (nI 3)) dX7_fault_295 rfl (by decide) ?_
      refine p_callV 299 hL [0] 1 rfl (by decide) (L1 := [row b cb q]) (L2 := []) rfl row_O 0 rfl dX7_fault_296 rfl cv_X7_19 (k_X4_word (by omega)) rfl rfl (Nat.le_of_ble_eq_true rfl) ⟨by decide, by omega, by omega⟩ (fun r1 L1 h q hL => ?_)
      obtain ⟨rfl, rfl⟩ := q
      have hL : stars [row b cb q] h := hL
      refine e_iconst 300 (v := (nI 1)) dX7_fault_299 rfl (by decide) ?_
      refine e_sipush 303 (v := (nI 1968)) dX7_fault_300 rfl (by decide) ?_
      refine p_callS 306 hL [0] 1 rfl (by decide) (L1 := []) (L2 := [row b cb q]) rfl dX7_fault_303 rfl cs_X7_22 (k_X11_within (by omega) (by omega) (by omega)) rfl rfl (Nat.le_of_ble_eq_true rfl) ⟨by decide, by omega, by omega⟩ (fun r1 L1 h q hL => ?_)
      obtain ⟨rfl, rfl⟩ := q
      have hL : stars [row b cb q] h := hL
      refine e_if_eq 343 309 dX7_fault_306 rfl rfl (fun c306 => ?_) (fun c306 => ?_)
      · have k306 := jin_eq_t c306
        refine e_iconst 344 (v := (nI 0)) dX7_fault_343 rfl (by decide) ?_
        refine p_callS 347 hL [0] 1 rfl (by decide) (L1 := []) (L2 := [row b cb q]) rfl dX7_fault_344 rfl cs_X7_26 (k_X7_codeUnless (b := false)) rfl rfl (Nat.le_of_ble_eq_true rfl) ⟨by decide, by omega, by omega⟩ (fun r1 L1 h q hL => ?_)
        obtain ⟨rfl, rfl⟩ := q
        have hL : stars [row b cb q] h := hL
        exact e_iret dX7_fault_347 rfl (by omega) (by omega) (⟨_, ⟨by (rw [shF, if_neg (by omega), if_neg (by omega), if_neg (by omega), if_neg (by omega), if_neg (by omega), if_pos (by omega), if_neg (by omega)]) <;> rfl, rfl⟩, hL⟩)
      · have k306 := jin_eq_f c306
        refine e_aload_n 310 dX7_fault_309 rfl rfl ?_
        refine e_iconst 311 (v := (nI 5)) dX7_fault_310 rfl (by decide) ?_
        refine p_callV 314 hL [0] 1 rfl (by decide) (L1 := [row b cb q]) (L2 := []) rfl row_O 0 rfl dX7_fault_311 rfl cv_X7_15 (k_X4_at (by omega)) rfl rfl (Nat.le_of_ble_eq_true rfl) ⟨by decide, by omega, by omega⟩ (fun r1 L1 h q hL => ?_)
        obtain ⟨rfl, rfl⟩ := q
        have hL : stars [row b cb q] h := hL
        refine e_aload_n 315 dX7_fault_314 rfl rfl ?_
        refine e_iconst 316 (v := (nI 3)) dX7_fault_315 rfl (by decide) ?_
        refine p_callV 319 hL [0] 1 rfl (by decide) (L1 := [row b cb q]) (L2 := []) rfl row_O 0 rfl dX7_fault_316 rfl cv_X7_19 (k_X4_word (by omega)) rfl rfl (Nat.le_of_ble_eq_true rfl) ⟨by decide, by omega, by omega⟩ (fun r1 L1 h q hL => ?_)
        obtain ⟨rfl, rfl⟩ := q
        have hL : stars [row b cb q] h := hL
        refine e_bipush 321 (v := (nI 7)) dX7_fault_319 rfl (by decide) ?_
        refine e_iadd 322 (v := (nI ((wd q 3) + 7))) dX7_fault_321 rfl (nI_add (wd q 3) 7) ?_
        refine e_bipush 324 (v := (nI 8)) dX7_fault_322 rfl (by decide) ?_
        refine e_idiv 325 (v := (nI ((wd q 3 + 7) / 8))) dX7_fault_324 rfl (by decide) (pk_div (by omega) (by decide) (by decide)) ?_
        refine e_icmp_ne 343 328 dX7_fault_325 rfl rfl (fun c325 => ?_) (fun c325 => ?_)
        · have k325 := j_ne_t (a := (q.getD 5 0)) (b := ((wd q 3 + 7) / 8)) (by omega) (by omega) c325
          refine e_iconst 344 (v := (nI 0)) dX7_fault_343 rfl (by decide) ?_
          refine p_callS 347 hL [0] 1 rfl (by decide) (L1 := []) (L2 := [row b cb q]) rfl dX7_fault_344 rfl cs_X7_26 (k_X7_codeUnless (b := false)) rfl rfl (Nat.le_of_ble_eq_true rfl) ⟨by decide, by omega, by omega⟩ (fun r1 L1 h q hL => ?_)
          obtain ⟨rfl, rfl⟩ := q
          have hL : stars [row b cb q] h := hL
          exact e_iret dX7_fault_347 rfl (by omega) (by omega) (⟨_, ⟨by (rw [shF, if_neg (by omega), if_neg (by omega), if_neg (by omega), if_neg (by omega), if_neg (by omega), if_pos (by omega), if_neg (by omega)]) <;> rfl, rfl⟩, hL⟩)
        · have k325 := j_ne_f (a := (q.getD 5 0)) (b := ((wd q 3 + 7) / 8)) (by omega) (by omega) c325
          refine e_iload_n 329 dX7_fault_328 rfl rfl ?_
          refine e_iconst 330 (v := (nI 5)) dX7_fault_329 rfl (by decide) ?_
          refine e_isub 331 (v := (nI (q.length - 1 - 5))) dX7_fault_330 rfl (pk_sub (by omega)) ?_
          refine e_aload_n 332 dX7_fault_331 rfl rfl ?_
          refine e_iconst 333 (v := (nI 5)) dX7_fault_332 rfl (by decide) ?_
          refine p_callV 336 hL [0] 1 rfl (by decide) (L1 := [row b cb q]) (L2 := []) rfl row_O 0 rfl dX7_fault_333 rfl cv_X7_15 (k_X4_at (by omega)) rfl rfl (Nat.le_of_ble_eq_true rfl) ⟨by decide, by omega, by omega⟩ (fun r1 L1 h q hL => ?_)
          obtain ⟨rfl, rfl⟩ := q
          have hL : stars [row b cb q] h := hL
          refine e_icmp_ne 343 339 dX7_fault_336 rfl rfl (fun c336 => ?_) (fun c336 => ?_)
          · have k336 := j_ne_t (a := (q.length - 1 - 5)) (b := (q.getD 5 0)) (by omega) (by omega) c336
            refine e_iconst 344 (v := (nI 0)) dX7_fault_343 rfl (by decide) ?_
            refine p_callS 347 hL [0] 1 rfl (by decide) (L1 := []) (L2 := [row b cb q]) rfl dX7_fault_344 rfl cs_X7_26 (k_X7_codeUnless (b := false)) rfl rfl (Nat.le_of_ble_eq_true rfl) ⟨by decide, by omega, by omega⟩ (fun r1 L1 h q hL => ?_)
            obtain ⟨rfl, rfl⟩ := q
            have hL : stars [row b cb q] h := hL
            exact e_iret dX7_fault_347 rfl (by omega) (by omega) (⟨_, ⟨by (rw [shF, if_neg (by omega), if_neg (by omega), if_neg (by omega), if_neg (by omega), if_neg (by omega), if_pos (by omega), if_neg (by omega)]) <;> rfl, rfl⟩, hL⟩)
          · have k336 := j_ne_f (a := (q.length - 1 - 5)) (b := (q.getD 5 0)) (by omega) (by omega) c336
            refine e_iconst 340 (v := (nI 1)) dX7_fault_339 rfl (by decide) ?_
            refine e_goto 344 dX7_fault_340 rfl ?_
            refine p_callS 347 hL [0] 1 rfl (by decide) (L1 := []) (L2 := [row b cb q]) rfl dX7_fault_344 rfl cs_X7_26 (k_X7_codeUnless (b := true)) rfl rfl (Nat.le_of_ble_eq_true rfl) ⟨by decide, by omega, by omega⟩ (fun r1 L1 h q hL => ?_)
            obtain ⟨rfl, rfl⟩ := q
            have hL : stars [row b cb q] h := hL
            exact e_iret dX7_fault_347 rfl (by omega) (by omega) (⟨_, ⟨by (rw [shF, if_neg (by omega), if_neg (by omega), if_neg (by omega), if_neg (by omega), if_neg (by omega), if_pos (by omega), if_pos (by omega)]) <;> rfl, rfl⟩, hL⟩)
  · refine e_tableIn 348 (off := 336) dX7_fault_12 (by rw [nI_toInt (by omega)]; omega) (by rw [nI_toInt (by omega)]; omega) (by rw [s12]; decide) rfl ?_
    refine e_iload_n 349 dX7_fault_348 rfl rfl ?_
    refine e_iconst 350 (v := (nI 5)) dX7_fault_349 rfl (by decide) ?_
    refine e_icmp_lt 397 353 dX7_fault_350 rfl rfl (fun c350 => ?_) (fun c350 => ?_)
    · have k350 := j_lt_t (a := (q.length - 1)) (b := 5) (by omega) (by omega) c350
      refine e_iconst 398 (v := (nI 0)) dX7_fault_397 rfl (by decide) ?_
      refine p_callS 401 hL [0] 1 rfl (by decide) (L1 := []) (L2 := [row b cb q]) rfl dX7_fault_398 rfl cs_X7_26 (k_X7_codeUnless (b := false)) rfl rfl (Nat.le_of_ble_eq_true rfl) ⟨by decide, by omega, by omega⟩ (fun r1 L1 h q hL => ?_)
      obtain ⟨rfl, rfl⟩ := q
      have hL : stars [row b cb q] h := hL
      exact e_iret dX7_fault_401 rfl (by omega) (by omega) (⟨_, ⟨by (rw [shF, if_neg (by omega), if_neg (by omega), if_neg (by omega), if_neg (by omega), if_neg (by omega), if_neg (by omega), if_pos (by omega), if_neg (by omega)]) <;> rfl, rfl⟩, hL⟩)
    · have k350 := j_lt_f (a := (q.length - 1)) (b := 5) (by omega) (by omega) c350
      refine e_aload_n 354 dX7_fault_353 rfl rfl ?_
      refine e_iconst 355 (v := (nI 3)) dX7_fault_354 rfl (by decide) ?_
      refine p_callV 358 hL [0] 1 rfl (by decide) (L1 := [row b cb q]) (L2 := []) rfl row_O 0 rfl dX7_fault_355 rfl cv_X7_19 (k_X4_word (by omega)) rfl rfl (Nat.le_of_ble_eq_true rfl) ⟨by decide, by omega, by omega⟩ (fun r1 L1 h q hL => ?_)
      obtain ⟨rfl, rfl⟩ := q
      have hL : stars [row b cb q] h := hL
      refine e_iconst 359 (v := (nI 1)) dX7_fault_358 rfl (by decide) ?_
      refine e_bipush 361 (v := (nI 123)) dX7_fault_359 rfl (by decide) ?_
      refine p_callS 364 hL [0] 1 rfl (by decide) (L1 := []) (L2 := [row b cb q]) rfl dX7_fault_361 rfl cs_X7_22 (k_X11_within (by omega) (by omega) (by omega)) rfl rfl (Nat.le_of_ble_eq_true rfl) ⟨by decide, by omega, by omega⟩ (fun r1 L1 h q hL => ?_)
      obtain ⟨rfl, rfl⟩ := q
      have hL : stars [row b cb q] h := hL
      refine e_if_eq 397 367 dX7_fault_364 rfl rfl (fun c364 => ?_) (fun c364 => ?_)
      · have k364 := jin_eq_t c364
        refine e_iconst 398 (v := (nI 0)) dX7_fault_397 rfl (by decide) ?_
        refine p_callS 401 hL [0] 1 rfl (by decide) (L1 := []) (L2 := [row b cb q]) rfl dX7_fault_398 rfl cs_X7_26 (k_X7_codeUnless (b := false)) rfl rfl (Nat.le_of_ble_eq_true rfl) ⟨by decide, by omega, by omega⟩ (fun r1 L1 h q hL => ?_)
        obtain ⟨rfl, rfl⟩ := q
        have hL : stars [row b cb q] h := hL
        exact e_iret dX7_fault_401 rfl (by omega) (by omega) (⟨_, ⟨by (rw [shF, if_neg (by omega), if_neg (by omega), if_neg (by omega), if_neg (by omega), if_neg (by omega), if_neg (by omega), if_pos (by omega), if_neg (by omega)]) <;> rfl, rfl⟩, hL⟩)
      · have k364 := jin_eq_f c364
        refine e_aload_n 368 dX7_fault_367 rfl rfl ?_
        refine e_iconst 369 (v := (nI 5)) dX7_fault_368 rfl (by decide) ?_
        refine p_callV 372 hL [0] 1 rfl (by decide) (L1 := [row b cb q]) (L2 := []) rfl row_O 0 rfl dX7_fault_369 rfl cv_X7_15 (k_X4_at (by omega)) rfl rfl (Nat.le_of_ble_eq_true rfl) ⟨by decide, by omega, by omega⟩ (fun r1 L1 h q hL => ?_)
        obtain ⟨rfl, rfl⟩ := q
        have hL : stars [row b cb q] h := hL
        refine e_iconst 373 (v := (nI 2)) dX7_fault_372 rfl (by decide) ?_
        refine e_aload_n 374 dX7_fault_373 rfl rfl ?_
        refine e_iconst 375 (v := (nI 3)) dX7_fault_374 rfl (by decide) ?_
        refine p_callV 378 hL [0] 1 rfl (by decide) (L1 := [row b cb q]) (L2 := []) rfl row_O 0 rfl dX7_fault_375 rfl cv_X7_19 (k_X4_word (by omega)) rfl rfl (Nat.le_of_ble_eq_true rfl) ⟨by decide, by omega, by omega⟩ (fun r1 L1 h q hL => ?_)
        obtain ⟨rfl, rfl⟩ := q
        have hL : stars [row b cb q] h := hL
        refine e_imul 379 (v := (nI (2 * (wd q 3)))) dX7_fault_378 rfl (pk_mul 2 (wd q 3)) ?_
        refine e_icmp_ne 397 382 dX7_fault_379 rfl rfl (fun c379 => ?_) (fun c379 => ?_)
        · have k379 := j_ne_t (a := (q.getD 5 0)) (b := (2 * (wd q 3))) (by omega) (by omega) c379
          refine e_iconst 398 (v := (nI 0)) dX7_fault_397 rfl (by decide) ?_
          refine p_callS 401 hL [0] 1 rfl (by decide) (L1 := []) (L2 := [row b cb q]) rfl dX7_fault_398 rfl cs_X7_26 (k_X7_codeUnless (b := false)) rfl rfl (Nat.le_of_ble_eq_true rfl) ⟨by decide, by omega, by omega⟩ (fun r1 L1 h q hL => ?_)
          obtain ⟨rfl, rfl⟩ := q
          have hL : stars [row b cb q] h := hL
          exact e_iret dX7_fault_401 rfl (by omega) (by omega) (⟨_, ⟨by (rw [shF, if_neg (by omega), if_neg (by omega), if_neg (by omega), if_neg (by omega), if_neg (by omega), if_neg (by omega), if_pos (by omega), if_neg (by omega)]) <;> rfl, rfl⟩, hL⟩)
        · have k379 := j_ne_f (a := (q.getD 5 0)) (b := (2 * (wd q 3))) (by omega) (by omega) c379
          refine e_iload_n 383 dX7_fault_382 rfl rfl ?_
          refine e_iconst 384 (v := (nI 5)) dX7_fault_383 rfl (by decide) ?_
          refine e_isub 385 (v := (nI (q.length - 1 - 5))) dX7_fault_384 rfl (pk_sub (by omega)) ?_
          refine e_aload_n 386 dX7_fault_385 rfl rfl ?_
          refine e_iconst 387 (v := (nI 5)) dX7_fault_386 rfl (by decide) ?_
          refine p_callV 390 hL [0] 1 rfl (by decide) (L1 := [row b cb q]) (L2 := []) rfl row_O 0 rfl dX7_fault_387 rfl cv_X7_15 (k_X4_at (by omega)) rfl rfl (Nat.le_of_ble_eq_true rfl) ⟨by decide, by omega, by omega⟩ (fun r1 L1 h q hL => ?_)
          obtain ⟨rfl, rfl⟩ := q
          have hL : stars [row b cb q] h := hL
          refine e_icmp_ne 397 393 dX7_fault_390 rfl rfl (fun c390 => ?_) (fun c390 => ?_)
          · have k390 := j_ne_t (a := (q.length - 1 - 5)) (b := (q.getD 5 0)) (by omega) (by omega) c390
            refine e_iconst 398 (v := (nI 0)) dX7_fault_397 rfl (by decide) ?_
            refine p_callS 401 hL [0] 1 rfl (by decide) (L1 := []) (L2 := [row b cb q]) rfl dX7_fault_398 rfl cs_X7_26 (k_X7_codeUnless (b := false)) rfl rfl (Nat.le_of_ble_eq_true rfl) ⟨by decide, by omega, by omega⟩ (fun r1 L1 h q hL => ?_)
            obtain ⟨rfl, rfl⟩ := q
            have hL : stars [row b cb q] h := hL
            exact e_iret dX7_fault_401 rfl (by omega) (by omega) (⟨_, ⟨by (rw [shF, if_neg (by omega), if_neg (by omega), if_neg (by omega), if_neg (by omega), if_neg (by omega), if_neg (by omega), if_pos (by omega), if_neg (by omega)]) <;> rfl, rfl⟩, hL⟩)
          · have k390 := j_ne_f (a := (q.length - 1 - 5)) (b := (q.getD 5 0)) (by omega) (by omega) c390
            refine e_iconst 394 (v := (nI 1)) dX7_fault_393 rfl (by decide) ?_
            refine e_goto 398 dX7_fault_394 rfl ?_
            refine p_callS 401 hL [0] 1 rfl (by decide) (L1 := []) (L2 := [row b cb q]) rfl dX7_fault_398 rfl cs_X7_26 (k_X7_codeUnless (b := true)) rfl rfl (Nat.le_of_ble_eq_true rfl) ⟨by decide, by omega, by omega⟩ (fun r1 L1 h q hL => ?_)
            obtain ⟨rfl, rfl⟩ := q
            have hL : stars [row b cb q] h := hL
            exact e_iret dX7_fault_401 rfl (by omega) (by omega) (⟨_, ⟨by (rw [shF, if_neg (by omega), if_neg (by omega), if_neg (by omega), if_neg (by omega), if_neg (by omega), if_neg (by omega), if_pos (by omega), if_pos (by omega)]) <;> rfl, rfl⟩, hL⟩)
  · refine e_tableIn 402 (off := 390) dX7_fault_12 (by rw [nI_toInt (by omega)]; omega) (by rw [nI_toInt (by omega)]; omega) (by rw [s12]; decide) rfl ?_
    refine e_aload_n 403 dX7_fault_402 rfl rfl ?_
    refine p_callS 406 hL [0] 1 rfl (by decide) (L1 := [row b cb q]) (L2 := []) rfl dX7_fault_403 rfl cs_X7_36 (k_X7_areReadParts hq) rfl rfl (Nat.le_of_ble_eq_true rfl) ⟨by decide, by omega, by omega⟩ (fun r1 L1 h q hL => ?_)
    obtain ⟨rfl, rfl⟩ := q
    have hL : stars [row b cb q] h := hL
    refine p_callS 409 hL [0] 1 rfl (by decide) (L1 := []) (L2 := [row b cb q]) rfl dX7_fault_406 rfl cs_X7_26 (k_X7_codeUnless (b := (rdP q))) rfl rfl (Nat.le_of_ble_eq_true rfl) ⟨by decide, by omega, by omega⟩ (fun r1 L1 h q hL => ?_)
    obtain ⟨rfl, rfl⟩ := q
    have hL : stars [row b cb q] h := hL
    exact e_iret dX7_fault_409 rfl (by omega) (by omega) (⟨_, ⟨by (rw [shF, if_neg (by omega), if_neg (by omega), if_neg (by omega), if_neg (by omega), if_neg (by omega), if_neg (by omega), if_neg (by omega), if_pos (by omega)]) <;> rfl, rfl⟩, hL⟩)
  · refine e_tableIn 410 (off := 398) dX7_fault_12 (by rw [nI_toInt (by omega)]; omega) (by rw [nI_toInt (by omega)]; omega) (by rw [s12]; decide) rfl ?_
    refine e_aload_n 411 dX7_fault_410 rfl rfl ?_
    refine p_callS 414 hL [0] 1 rfl (by decide) (L1 := [row b cb q]) (L2 := []) rfl dX7_fault_411 rfl cs_X7_40 (k_X7_areWriteParts hq) rfl rfl (Nat.le_of_ble_eq_true rfl) ⟨by decide, by omega, by omega⟩ (fun r1 L1 h q hL => ?_)
    obtain ⟨rfl, rfl⟩ := q
    have hL : stars [row b cb q] h := hL
    refine p_callS 417 hL [0] 1 rfl (by decide) (L1 := []) (L2 := [row b cb q]) rfl dX7_fault_414 rfl cs_X7_26 (k_X7_codeUnless (b := (wrP q))) rfl rfl (Nat.le_of_ble_eq_true rfl) ⟨by decide, by omega, by omega⟩ (fun r1 L1 h q hL => ?_)
    obtain ⟨rfl, rfl⟩ := q
    have hL : stars [row b cb q] h := hL
    exact e_iret dX7_fault_417 rfl (by omega) (by omega) (⟨_, ⟨by (rw [shF, if_neg (by omega), if_neg (by omega), if_neg (by omega), if_neg (by omega), if_neg (by omega), if_neg (by omega), if_neg (by omega), if_neg (by omega), if_pos (by omega)]) <;> rfl, rfl⟩, hL⟩)
  · refine e_tableIn 418 (off := 406) dX7_fault_12 (by rw [nI_toInt (by omega)]; omega) (by rw [nI_toInt (by omega)]; omega) (by rw [s12]; decide) rfl ?_
    refine e_iload_n 419 dX7_fault_418 rfl rfl ?_
    refine e_bipush 421 (v := (nI 6)) dX7_fault_419 rfl (by decide) ?_
    refine e_icmp_ne 428 424 dX7_fault_421 rfl rfl (fun c421 => ?_) (fun c421 => ?_)
    · have k421 := j_ne_t (a := (q.length - 1)) (b := 6) (by omega) (by omega) c421
      refine e_iconst 429 (v := (nI 0)) dX7_fault_428 rfl (by decide) ?_
      refine p_callS 432 hL [0] 1 rfl (by decide) (L1 := []) (L2 := [row b cb q]) rfl dX7_fault_429 rfl cs_X7_26 (k_X7_codeUnless (b := false)) rfl rfl (Nat.le_of_ble_eq_true rfl) ⟨by decide, by omega, by omega⟩ (fun r1 L1 h q hL => ?_)
      obtain ⟨rfl, rfl⟩ := q
      have hL : stars [row b cb q] h := hL
      exact e_iret dX7_fault_432 rfl (by omega) (by omega) (⟨_, ⟨by (rw [shF, if_neg (by omega), if_neg (by omega), if_neg (by omega), if_neg (by omega), if_neg (by omega), if_neg (by omega), if_neg (by omega), if_neg (by omega), if_neg (by omega), if_pos (by omega), if_neg (by omega)]) <;> rfl, rfl⟩, hL⟩)
    · have k421 := j_ne_f (a := (q.length - 1)) (b := 6) (by omega) (by omega) c421
      refine e_iconst 425 (v := (nI 1)) dX7_fault_424 rfl (by decide) ?_
      refine e_goto 429 dX7_fault_425 rfl ?_
      refine p_callS 432 hL [0] 1 rfl (by decide) (L1 := []) (L2 := [row b cb q]) rfl dX7_fault_429 rfl cs_X7_26 (k_X7_codeUnless (b := true)) rfl rfl (Nat.le_of_ble_eq_true rfl) ⟨by decide, by omega, by omega⟩ (fun r1 L1 h q hL => ?_)
      obtain ⟨rfl, rfl⟩ := q
      have hL : stars [row b cb q] h := hL
      exact e_iret dX7_fault_432 rfl (by omega) (by omega) (⟨_, ⟨by (rw [shF, if_neg (by omega), if_neg (by omega), if_neg (by omega), if_neg (by omega), if_neg (by omega), if_neg (by omega), if_neg (by omega), if_neg (by omega), if_neg (by omega), if_pos (by omega), if_pos (by omega)]) <;> rfl, rfl⟩, hL⟩)
  · refine e_tableIn 433 (off := 421) dX7_fault_12 (by rw [nI_toInt (by omega)]; omega) (by rw [nI_toInt (by omega)]; omega) (by rw [s12]; decide) rfl ?_
    refine e_iload_n 434 dX7_fault_433 rfl rfl ?_
    refine e_bipush 436 (v := (nI 9)) dX7_fault_434 rfl (by decide) ?_
    refine e_icmp_lt 502 439 dX7_fault_436 rfl rfl (fun c436 => ?_) (fun c436 => ?_)
    · have k436 := j_lt_t (a := (q.length - 1)) (b := 9) (by omega) (by omega) c436
      refine e_iconst 503 (v := (nI 0)) dX7_fault_502 rfl (by decide) ?_
      refine p_callS 506 hL [0] 1 rfl (by decide) (L1 := []) (L2 := [row b cb q]) rfl dX7_fault_503 rfl cs_X7_26 (k_X7_codeUnless (b := false)) rfl rfl (Nat.le_of_ble_eq_true rfl) ⟨by decide, by omega, by omega⟩ (fun r1 L1 h q hL => ?_)
      obtain ⟨rfl, rfl⟩ := q
      have hL : stars [row b cb q] h := hL
      exact e_iret dX7_fault_506 rfl (by omega) (by omega) (⟨_, ⟨by (rw [shF, if_neg (by omega), if_neg (by omega), if_neg (by omega), if_neg (by omega), if_neg (by omega), if_neg (by omega), if_neg (by omega), if_neg (by omega), if_neg (by omega), if_neg (by omega), if_pos (by omega), if_neg (by omega)]) <;> rfl, rfl⟩, hL⟩)
    · have k436 := j_lt_f (a := (q.length - 1)) (b := 9) (by omega) (by omega) c436
      refine e_aload_n 440 dX7_fault_439 rfl rfl ?_
      refine e_iconst 441 (v := (nI 3)) dX7_fault_440 rfl (by decide) ?_
      refine p_callV 444 hL [0] 1 rfl (by decide) (L1 := [row b cb q]) (L2 := []) rfl row_O 0 rfl dX7_fault_441 rfl cv_X7_19 (k_X4_word (by omega)) rfl rfl (Nat.le_of_ble_eq_true rfl) ⟨by decide, by omega, by omega⟩ (fun r1 L1 h q hL => ?_)
      obtain ⟨rfl, rfl⟩ := q
      have hL : stars [row b cb q] h := hL
      refine e_iconst 445 (v := (nI 1)) dX7_fault_444 rfl (by decide) ?_
      refine e_bipush 447 (v := (nI 125)) dX7_fault_445 rfl (by decide) ?_
      refine p_callS 450 hL [0] 1 rfl (by decide) (L1 := []) (L2 := [row b cb q]) rfl dX7_fault_447 rfl cs_X7_22 (k_X11_within (by omega) (by omega) (by omega)) rfl rfl (Nat.le_of_ble_eq_true rfl) ⟨by decide, by omega, by omega⟩ (fun r1 L1 h q hL => ?_)
      obtain ⟨rfl, rfl⟩ := q
      have hL : stars [row b cb q] h := hL
      refine e_if_eq 502 453 dX7_fault_450 rfl rfl (fun c450 => ?_) (fun c450 => ?_)
      · have k450 := jin_eq_t c450
        refine e_iconst 503 (v := (nI 0)) dX7_fault_502 rfl (by decide) ?_
        refine p_callS 506 hL [0] 1 rfl (by decide) (L1 := []) (L2 := [row b cb q]) rfl dX7_fault_503 rfl cs_X7_26 (k_X7_codeUnless (b := false)) rfl rfl (Nat.le_of_ble_eq_true rfl) ⟨by decide, by omega, by omega⟩ (fun r1 L1 h q hL => ?_)
        obtain ⟨rfl, rfl⟩ := q
        have hL : stars [row b cb q] h := hL
        exact e_iret dX7_fault_506 rfl (by omega) (by omega) (⟨_, ⟨by (rw [shF, if_neg (by omega), if_neg (by omega), if_neg (by omega), if_neg (by omega), if_neg (by omega), if_neg (by omega), if_neg (by omega), if_neg (by omega), if_neg (by omega), if_neg (by omega), if_pos (by omega), if_neg (by omega)]) <;> rfl, rfl⟩, hL⟩)
      · have k450 := jin_eq_f c450
        refine e_aload_n 454 dX7_fault_453 rfl rfl ?_
        refine e_bipush 456 (v := (nI 7)) dX7_fault_454 rfl (by decide) ?_
        refine p_callV 459 hL [0] 1 rfl (by decide) (L1 := [row b cb q]) (L2 := []) rfl row_O 0 rfl dX7_fault_456 rfl cv_X7_19 (k_X4_word (by omega)) rfl rfl (Nat.le_of_ble_eq_true rfl) ⟨by decide, by omega, by omega⟩ (fun r1 L1 h q hL => ?_)
        obtain ⟨rfl, rfl⟩ := q
        have hL : stars [row b cb q] h := hL
        refine e_iconst 460 (v := (nI 1)) dX7_fault_459 rfl (by decide) ?_
        refine e_bipush 462 (v := (nI 121)) dX7_fault_460 rfl (by decide) ?_
        refine p_callS 465 hL [0] 1 rfl (by decide) (L1 := []) (L2 := [row b cb q]) rfl dX7_fault_462 rfl cs_X7_22 (k_X11_within (by omega) (by omega) (by omega)) rfl rfl (Nat.le_of_ble_eq_true rfl) ⟨by decide, by omega, by omega⟩ (fun r1 L1 h q hL => ?_)
        obtain ⟨rfl, rfl⟩ := q
        have hL : stars [row b cb q] h := hL
        refine e_if_eq 502 468 dX7_fault_465 rfl rfl (fun c465 => ?_) (fun c465 => ?_)
        · have k465 := jin_eq_t c465
          refine e_iconst 503 (v := (nI 0)) dX7_fault_502 rfl (by decide) ?_
          refine p_callS 506 hL [0] 1 rfl (by decide) (L1 := []) (L2 := [row b cb q]) rfl dX7_fault_503 rfl cs_X7_26 (k_X7_codeUnless (b := false)) rfl rfl (Nat.le_of_ble_eq_true rfl) ⟨by decide, by omega, by omega⟩ (fun r1 L1 h q hL => ?_)
          obtain ⟨rfl, rfl⟩ := q
          have hL : stars [row b cb q] h := hL
          exact e_iret dX7_fault_506 rfl (by omega) (by omega) (⟨_, ⟨by (rw [shF, if_neg (by omega), if_neg (by omega), if_neg (by omega), if_neg (by omega), if_neg (by omega), if_neg (by omega), if_neg (by omega), if_neg (by omega), if_neg (by omega), if_neg (by omega), if_pos (by omega), if_neg (by omega)]) <;> rfl, rfl⟩, hL⟩)
        · have k465 := jin_eq_f c465
          refine e_aload_n 469 dX7_fault_468 rfl rfl ?_
          refine e_bipush 471 (v := (nI 9)) dX7_fault_469 rfl (by decide) ?_
          refine p_callV 474 hL [0] 1 rfl (by decide) (L1 := [row b cb q]) (L2 := []) rfl row_O 0 rfl dX7_fault_471 rfl cv_X7_15 (k_X4_at (by omega)) rfl rfl (Nat.le_of_ble_eq_true rfl) ⟨by decide, by omega, by omega⟩ (fun r1 L1 h q hL => ?_)
          obtain ⟨rfl, rfl⟩ := q
          have hL : stars [row b cb q] h := hL
          refine e_iconst 475 (v := (nI 2)) dX7_fault_474 rfl (by decide) ?_
          refine e_aload_n 476 dX7_fault_475 rfl rfl ?_
          refine e_bipush 478 (v := (nI 7)) dX7_fault_476 rfl (by decide) ?_
          refine p_callV 481 hL [0] 1 rfl (by decide) (L1 := [row b cb q]) (L2 := []) rfl row_O 0 rfl dX7_fault_478 rfl cv_X7_19 (k_X4_word (by omega)) rfl rfl (Nat.le_of_ble_eq_true rfl) ⟨by decide, by omega, by omega⟩ (fun r1 L1 h q hL => ?_)
          obtain ⟨rfl, rfl⟩ := q
          have hL : stars [row b cb q] h := hL
          refine e_imul 482 (v := (nI (2 * (wd q 7)))) dX7_fault_481 rfl (pk_mul 2 (wd q 7)) ?_
          refine e_icmp_ne 502 485 dX7_fault_482 rfl rfl (fun c482 => ?_) (fun c482 => ?_)
          · have k482 := j_ne_t (a := (q.getD 9 0)) (b := (2 * (wd q 7))) (by omega) (by omega) c482
            refine e_iconst 503 (v := (nI 0)) dX7_fault_502 rfl (by decide) ?_
            refine p_callS 506 hL [0] 1 rfl (by decide) (L1 := []) (L2 := [row b cb q]) rfl dX7_fault_503 rfl cs_X7_26 (k_X7_codeUnless (b := false)) rfl rfl (Nat.le_of_ble_eq_true rfl) ⟨by decide, by omega, by omega⟩ (fun r1 L1 h q hL => ?_)
            obtain ⟨rfl, rfl⟩ := q
            have hL : stars [row b cb q] h := hL
            exact e_iret dX7_fault_506 rfl (by omega) (by omega) (⟨_, ⟨by (rw [shF, if_neg (by omega), if_neg (by omega), if_neg (by omega), if_neg (by omega), if_neg (by omega), if_neg (by omega), if_neg (by omega), if_neg (by omega), if_neg (by omega), if_neg (by omega), if_pos (by omega), if_neg (by omega)]) <;> rfl, rfl⟩, hL⟩)
          · have k482 := j_ne_f (a := (q.getD 9 0)) (b := (2 * (wd q 7))) (by omega) (by omega) c482
            refine e_iload_n 486 dX7_fault_485 rfl rfl ?_
            refine e_bipush 488 (v := (nI 9)) dX7_fault_486 rfl (by decide) ?_
            refine e_isub 489 (v := (nI (q.length - 1 - 9))) dX7_fault_488 rfl (pk_sub (by omega)) ?_
            refine e_aload_n 490 dX7_fault_489 rfl rfl ?_
            refine e_bipush 492 (v := (nI 9)) dX7_fault_490 rfl (by decide) ?_
            refine p_callV 495 hL [0] 1 rfl (by decide) (L1 := [row b cb q]) (L2 := []) rfl row_O 0 rfl dX7_fault_492 rfl cv_X7_15 (k_X4_at (by omega)) rfl rfl (Nat.le_of_ble_eq_true rfl) ⟨by decide, by omega, by omega⟩ (fun r1 L1 h q hL => ?_)
            obtain ⟨rfl, rfl⟩ := q
            have hL : stars [row b cb q] h := hL
            refine e_icmp_ne 502 498 dX7_fault_495 rfl rfl (fun c495 => ?_) (fun c495 => ?_)
            · have k495 := j_ne_t (a := (q.length - 1 - 9)) (b := (q.getD 9 0)) (by omega) (by omega) c495
              refine e_iconst 503 (v := (nI 0)) dX7_fault_502 rfl (by decide) ?_
              refine p_callS 506 hL [0] 1 rfl (by decide) (L1 := []) (L2 := [row b cb q]) rfl dX7_fault_503 rfl cs_X7_26 (k_X7_codeUnless (b := false)) rfl rfl (Nat.le_of_ble_eq_true rfl) ⟨by decide, by omega, by omega⟩ (fun r1 L1 h q hL => ?_)
              obtain ⟨rfl, rfl⟩ := q
              have hL : stars [row b cb q] h := hL
              exact e_iret dX7_fault_506 rfl (by omega) (by omega) (⟨_, ⟨by (rw [shF, if_neg (by omega), if_neg (by omega), if_neg (by omega), if_neg (by omega), if_neg (by omega), if_neg (by omega), if_neg (by omega), if_neg (by omega), if_neg (by omega), if_neg (by omega), if_pos (by omega), if_neg (by omega)]) <;> rfl, rfl⟩, hL⟩)
            · have k495 := j_ne_f (a := (q.length - 1 - 9)) (b := (q.getD 9 0)) (by omega) (by omega) c495
              refine e_iconst 499 (v := (nI 1)) dX7_fault_498 rfl (by decide) ?_
              refine e_goto 503 dX7_fault_499 rfl ?_
              refine p_callS 506 hL [0] 1 rfl (by decide) (L1 := []) (L2 := [row b cb q]) rfl dX7_fault_503 rfl cs_X7_26 (k_X7_codeUnless (b := true)) rfl rfl (Nat.le_of_ble_eq_true rfl) ⟨by decide, by omega, by omega⟩ (fun r1 L1 h q hL => ?_)
              obtain ⟨rfl, rfl⟩ := q
              have hL : stars [row b cb q] h := hL
              exact e_iret dX7_fault_506 rfl (by omega) (by omega) (⟨_, ⟨by (rw [shF, if_neg (by omega), if_neg (by omega), if_neg (by omega), if_neg (by omega), if_neg (by omega), if_neg (by omega), if_neg (by omega), if_neg (by omega), if_neg (by omega), if_neg (by omega), if_pos (by omega), if_pos (by omega)]) <;> rfl, rfl⟩, hL⟩)
  · refine e_tableIn 507 (off := 495) dX7_fault_12 (by rw [nI_toInt (by omega)]; omega) (by rw [nI_toInt (by omega)]; omega) (by rw [s12]; decide) rfl ?_
    refine e_iload_n 508 dX7_fault_507 rfl rfl ?_
    refine e_iconst 509 (v := (nI 2)) dX7_fault_508 rfl (by decide) ?_
    refine e_icmp_ne 516 512 dX7_fault_509 rfl rfl (fun c509 => ?_) (fun c509 => ?_)
    · have k509 := j_ne_t (a := (q.length - 1)) (b := 2) (by omega) (by omega) c509
      refine e_iconst 517 (v := (nI 0)) dX7_fault_516 rfl (by decide) ?_
      refine p_callS 520 hL [0] 1 rfl (by decide) (L1 := []) (L2 := [row b cb q]) rfl dX7_fault_517 rfl cs_X7_26 (k_X7_codeUnless (b := false)) rfl rfl (Nat.le_of_ble_eq_true rfl) ⟨by decide, by omega, by omega⟩ (fun r1 L1 h q hL => ?_)
      obtain ⟨rfl, rfl⟩ := q
      have hL : stars [row b cb q] h := hL
      exact e_iret dX7_fault_520 rfl (by omega) (by omega) (⟨_, ⟨by (rw [shF, if_neg (by omega), if_neg (by omega), if_neg (by omega), if_neg (by omega), if_neg (by omega), if_neg (by omega), if_neg (by omega), if_neg (by omega), if_neg (by omega), if_neg (by omega), if_neg (by omega), if_pos (by omega), if_neg (by omega)]) <;> rfl, rfl⟩, hL⟩)
    · have k509 := j_ne_f (a := (q.length - 1)) (b := 2) (by omega) (by omega) c509
      refine e_iconst 513 (v := (nI 1)) dX7_fault_512 rfl (by decide) ?_
      refine e_goto 517 dX7_fault_513 rfl ?_
      refine p_callS 520 hL [0] 1 rfl (by decide) (L1 := []) (L2 := [row b cb q]) rfl dX7_fault_517 rfl cs_X7_26 (k_X7_codeUnless (b := true)) rfl rfl (Nat.le_of_ble_eq_true rfl) ⟨by decide, by omega, by omega⟩ (fun r1 L1 h q hL => ?_)
      obtain ⟨rfl, rfl⟩ := q
      have hL : stars [row b cb q] h := hL
      exact e_iret dX7_fault_520 rfl (by omega) (by omega) (⟨_, ⟨by (rw [shF, if_neg (by omega), if_neg (by omega), if_neg (by omega), if_neg (by omega), if_neg (by omega), if_neg (by omega), if_neg (by omega), if_neg (by omega), if_neg (by omega), if_neg (by omega), if_neg (by omega), if_pos (by omega), if_pos (by omega)]) <;> rfl, rfl⟩, hL⟩)
  · refine e_tableIn 521 (off := 509) dX7_fault_12 (by rw [nI_toInt (by omega)]; omega) (by rw [nI_toInt (by omega)]; omega) (by rw [s12]; decide) rfl ?_
    refine e_aload_n 522 dX7_fault_521 rfl rfl ?_
    refine p_callS 525 hL [0] 1 rfl (by decide) (L1 := [row b cb q]) (L2 := []) rfl dX7_fault_522 rfl cs_X7_43 (k_X7_textsFault hq) rfl rfl (Nat.le_of_ble_eq_true rfl) ⟨by decide, by omega, by omega⟩ (fun r1 L1 h q hL => ?_)
    obtain ⟨rfl, rfl⟩ := q
    have hL : stars [row b cb q] h := hL
    exact e_iret dX7_fault_525 rfl (by omega) (by omega) (⟨_, ⟨by (rw [shF, if_neg (by omega), if_neg (by omega), if_neg (by omega), if_neg (by omega), if_neg (by omega), if_neg (by omega), if_neg (by omega), if_neg (by omega), if_neg (by omega), if_neg (by omega), if_neg (by omega), if_neg (by omega), if_pos (by omega)]) <;> rfl, rfl⟩, hL⟩)
