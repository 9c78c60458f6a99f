/-! the reference: how requests must look -/
def tdF (f : Nat) : Bool := decide ((1 ≤ f ∧ f ≤ 8) ∨ f = 11 ∨ f = 12 ∨ (15 ≤ f ∧ f ≤ 17) ∨ (20 ≤ f ∧ f ≤ 24) ∨ f = 43)
def r8F (q : List Nat) : Nat := if dgF q = 0 then sdF q else dgF q
set_option maxRecDepth 20000 in
set_option maxHeartbeats 2000000 in
theorem u_X15_isTold {f : Nat} {h : eH} (hf : f < 65536) : PC mX15_isTold [.int (nI f)] h (some (.int (bI (tdF f)))) 1 22 := by
  refine PC.mk 0 (ls := [some (.int (nI f))]) rfl rfl (Nat.le_of_ble_eq_true rfl) rfl ?_
  refine e_iload_n 1 dX15_isTold_0 rfl rfl ?_
  refine e_iconst 2 (v := (nI 1)) dX15_isTold_1 rfl (by decide) ?_
  refine e_bipush 4 (v := (nI 8)) dX15_isTold_2 rfl (by decide) ?_
  refine u_callS 7 dX15_isTold_4 rfl cs_X15_81 (u_inN (by omega) (by omega) (by omega)) rfl rfl (Nat.le_of_ble_eq_true rfl) (by decide) ⟨by omega, by omega⟩ ?_
  refine e_if_ne 50 10 dX15_isTold_7 rfl rfl (fun c7 => ?_) (fun c7 => ?_)
  · have k7 := jin_ne_t c7
    refine e_iconst 51 (v := (nI 1)) dX15_isTold_50 rfl (by decide) ?_
    refine e_goto 55 dX15_isTold_51 rfl ?_
    exact e_zret dX15_isTold_55 rfl (Or.inr (by decide)) (by omega) (by omega) (⟨by rw [show tdF f = true by (unfold tdF; simp only [decide_eq_true_eq, decide_eq_false_iff_not]; omega)]; rfl, rfl⟩)
  · have k7 := jin_ne_f c7
    refine e_iload_n 11 dX15_isTold_10 rfl rfl ?_
    refine e_bipush 13 (v := (nI 11)) dX15_isTold_11 rfl (by decide) ?_
    refine e_icmp_eq 50 16 dX15_isTold_13 rfl rfl (fun c13 => ?_) (fun c13 => ?_)
    · have k13 := j_eq_t (a := f) (b := 11) (by omega) (by omega) c13
      refine e_iconst 51 (v := (nI 1)) dX15_isTold_50 rfl (by decide) ?_
      refine e_goto 55 dX15_isTold_51 rfl ?_
      exact e_zret dX15_isTold_55 rfl (Or.inr (by decide)) (by omega) (by omega) (⟨by rw [show tdF f = true by (unfold tdF; simp only [decide_eq_true_eq, decide_eq_false_iff_not]; omega)]; rfl, rfl⟩)
    · have k13 := j_eq_f (a := f) (b := 11) (by omega) (by omega) c13
      refine e_iload_n 17 dX15_isTold_16 rfl rfl ?_
      refine e_bipush 19 (v := (nI 12)) dX15_isTold_17 rfl (by decide) ?_
      refine e_icmp_eq 50 22 dX15_isTold_19 rfl rfl (fun c19 => ?_) (fun c19 => ?_)
      · have k19 := j_eq_t (a := f) (b := 12) (by omega) (by omega) c19
        refine e_iconst 51 (v := (nI 1)) dX15_isTold_50 rfl (by decide) ?_
        refine e_goto 55 dX15_isTold_51 rfl ?_
        exact e_zret dX15_isTold_55 rfl (Or.inr (by decide)) (by omega) (by omega) (⟨by rw [show tdF f = true by (unfold tdF; simp only [decide_eq_true_eq, decide_eq_false_iff_not]; omega)]; rfl, rfl⟩)
      · have k19 := j_eq_f (a := f) (b := 12) (by omega) (by omega) c19
        refine e_iload_n 23 dX15_isTold_22 rfl rfl ?_
        refine e_bipush 25 (v := (nI 15)) dX15_isTold_23 rfl (by decide) ?_
        refine e_bipush 27 (v := (nI 17)) dX15_isTold_25 rfl (by decide) ?_
        refine u_callS 30 dX15_isTold_27 rfl cs_X15_81 (u_inN (by omega) (by omega) (by omega)) rfl rfl (Nat.le_of_ble_eq_true rfl) (by decide) ⟨by omega, by omega⟩ ?_
        refine e_if_ne 50 33 dX15_isTold_30 rfl rfl (fun c30 => ?_) (fun c30 => ?_)
        · have k30 := jin_ne_t c30
          refine e_iconst 51 (v := (nI 1)) dX15_isTold_50 rfl (by decide) ?_
          refine e_goto 55 dX15_isTold_51 rfl ?_
          exact e_zret dX15_isTold_55 rfl (Or.inr (by decide)) (by omega) (by omega) (⟨by rw [show tdF f = true by (unfold tdF; simp only [decide_eq_true_eq, decide_eq_false_iff_not]; omega)]; rfl, rfl⟩)
        · have k30 := jin_ne_f c30
          refine e_iload_n 34 dX15_isTold_33 rfl rfl ?_
          refine e_bipush 36 (v := (nI 20)) dX15_isTold_34 rfl (by decide) ?_
          refine e_bipush 38 (v := (nI 24)) dX15_isTold_36 rfl (by decide) ?_
          refine u_callS 41 dX15_isTold_38 rfl cs_X15_81 (u_inN (by omega) (by omega) (by omega)) rfl rfl (Nat.le_of_ble_eq_true rfl) (by decide) ⟨by omega, by omega⟩ ?_
          refine e_if_ne 50 44 dX15_isTold_41 rfl rfl (fun c41 => ?_) (fun c41 => ?_)
          · have k41 := jin_ne_t c41
            refine e_iconst 51 (v := (nI 1)) dX15_isTold_50 rfl (by decide) ?_
            refine e_goto 55 dX15_isTold_51 rfl ?_
            exact e_zret dX15_isTold_55 rfl (Or.inr (by decide)) (by omega) (by omega) (⟨by rw [show tdF f = true by (unfold tdF; simp only [decide_eq_true_eq, decide_eq_false_iff_not]; omega)]; rfl, rfl⟩)
          · have k41 := jin_ne_f c41
            refine e_iload_n 45 dX15_isTold_44 rfl rfl ?_
            refine e_bipush 47 (v := (nI 43)) dX15_isTold_45 rfl (by decide) ?_
            refine e_icmp_ne 54 50 dX15_isTold_47 rfl rfl (fun c47 => ?_) (fun c47 => ?_)
            · have k47 := j_ne_t (a := f) (b := 43) (by omega) (by omega) c47
              refine e_iconst 55 (v := (nI 0)) dX15_isTold_54 rfl (by decide) ?_
              exact e_zret dX15_isTold_55 rfl (Or.inl (by decide)) (by omega) (by omega) (⟨by rw [show tdF f = false by (unfold tdF; simp only [decide_eq_true_eq, decide_eq_false_iff_not]; omega)]; rfl, rfl⟩)
            · have k47 := j_ne_f (a := f) (b := 43) (by omega) (by omega) c47
              refine e_iconst 51 (v := (nI 1)) dX15_isTold_50 rfl (by decide) ?_
              refine e_goto 55 dX15_isTold_51 rfl ?_
              exact e_zret dX15_isTold_55 rfl (Or.inr (by decide)) (by omega) (by omega) (⟨by rw [show tdF f = true by (unfold tdF; simp only [decide_eq_true_eq, decide_eq_false_iff_not]; omega)]; rfl, rfl⟩)
set_option maxRecDepth 20000 in
set_option maxHeartbeats 2000000 in
theorem u_X15_refusal8 {a qn : Nat} {q : List Nat} {h : eH} (hR : iaR a qn q h) (hqn : qn < 100000) (hq : ∀ x ∈ q, x < 256) (h1 : 1 ≤ q.length) : PC mX15_refusal8 [.ref a, .int (nI q.length)] h (some (.int (nI (r8F q)))) 1 22 := by
  have hle := hR.le
  refine PC.mk 2 (ls := [some (.ref a), some (.int (nI q.length)), none, none]) rfl rfl (Nat.le_of_ble_eq_true rfl) rfl ?_
  refine e_iload_n 1 dX15_refusal8_0 rfl rfl ?_
  refine e_iconst 2 (v := (nI 3)) dX15_refusal8_1 rfl (by decide) ?_
  refine e_icmp_ge 7 5 dX15_refusal8_2 rfl rfl (fun c2 => ?_) (fun c2 => ?_)
  · have k2 := j_ge_t (a := q.length) (b := 3) (by omega) (by omega) c2
    refine e_aload_n 8 dX15_refusal8_7 rfl rfl ?_
    refine e_iconst 9 (v := (nI 1)) dX15_refusal8_8 rfl (by decide) ?_
    refine u_callS 12 dX15_refusal8_9 rfl cs_X15_85 (u_X15_two hR (k := 1) (by omega) (by omega)) rfl rfl (Nat.le_of_ble_eq_true rfl) (by decide) ⟨by omega, by omega⟩ ?_
    have w9 := wd_lt (k := 1) hq
    refine e_istore_n 13 (ls' := [some (.ref a), some (.int (nI q.length)), some (.int (nI (wd q 1))), none]) dX15_refusal8_12 rfl (by decide) rfl ?_
    refine e_iload_n 14 dX15_refusal8_13 rfl rfl ?_
    refine e_if_ne 19 17 dX15_refusal8_14 rfl rfl (fun c14 => ?_) (fun c14 => ?_)
    · have k14 := j_ne0_t (a := (wd q 1)) (by omega) c14
      refine e_iload_n 20 dX15_refusal8_19 rfl rfl ?_
      refine e_iconst 21 (v := (nI 1)) dX15_refusal8_20 rfl (by decide) ?_
      refine e_iconst 22 (v := (nI 2)) dX15_refusal8_21 rfl (by decide) ?_
      refine u_callS 25 dX15_refusal8_22 rfl cs_X15_81 (u_inN (by omega) (by omega) (by omega)) rfl rfl (Nat.le_of_ble_eq_true rfl) (by decide) ⟨by omega, by omega⟩ ?_
      refine e_if_ne 52 28 dX15_refusal8_25 rfl rfl (fun c25 => ?_) (fun c25 => ?_)
      · have k25 := jin_ne_t c25
        refine e_iload_n 53 dX15_refusal8_52 rfl rfl ?_
        refine e_iconst 54 (v := (nI 5)) dX15_refusal8_53 rfl (by decide) ?_
        refine e_icmp_eq 59 57 dX15_refusal8_54 rfl rfl (fun c54 => ?_) (fun c54 => ?_)
        · have k54 := j_eq_t (a := q.length) (b := 5) (by omega) (by omega) c54
          refine e_aload_n 60 dX15_refusal8_59 rfl rfl ?_
          refine e_iconst 61 (v := (nI 3)) dX15_refusal8_60 rfl (by decide) ?_
          refine u_callS 64 dX15_refusal8_61 rfl cs_X15_85 (u_X15_two hR (k := 3) (by omega) (by omega)) rfl rfl (Nat.le_of_ble_eq_true rfl) (by decide) ⟨by omega, by omega⟩ ?_
          have w61 := wd_lt (k := 3) hq
          refine e_istore_n 65 (ls' := [some (.ref a), some (.int (nI q.length)), some (.int (nI (wd q 1))), some (.int (nI (wd q 3)))]) dX15_refusal8_64 rfl (by decide) rfl ?_
          refine e_iload_n 66 dX15_refusal8_65 rfl rfl ?_
          refine e_if_eq 80 69 dX15_refusal8_66 rfl rfl (fun c66 => ?_) (fun c66 => ?_)
          · have k66 := j_eq0_t (a := (wd q 3)) (by omega) c66
            refine e_iconst 81 (v := (nI 0)) dX15_refusal8_80 rfl (by decide) ?_
            refine e_goto 85 dX15_refusal8_81 rfl ?_
            exact e_iret dX15_refusal8_85 rfl (by omega) (by omega) (⟨by rw [show r8F q = 0 by (unfold r8F dgF sdF; (repeat' split) <;> first | rfl | (exfalso; omega))], rfl⟩)
          · have k66 := j_eq0_f (a := (wd q 3)) (by omega) c66
            refine e_iload_n 70 dX15_refusal8_69 rfl rfl ?_
            refine e_iconst 71 (v := (nI 1)) dX15_refusal8_70 rfl (by decide) ?_
            refine e_icmp_ne 84 74 dX15_refusal8_71 rfl rfl (fun c71 => ?_) (fun c71 => ?_)
            · have k71 := j_ne_t (a := (wd q 1)) (b := 1) (by omega) (by omega) c71
              refine e_iconst 85 (v := (nI 3)) dX15_refusal8_84 rfl (by decide) ?_
              exact e_iret dX15_refusal8_85 rfl (by omega) (by omega) (⟨by rw [show r8F q = 3 by (unfold r8F dgF sdF; (repeat' split) <;> first | rfl | (exfalso; omega))], rfl⟩)
            · have k71 := j_ne_f (a := (wd q 1)) (b := 1) (by omega) (by omega) c71
              refine e_iload_n 75 dX15_refusal8_74 rfl rfl ?_
              refine e_ldc 77 (v := (nI 65280)) dX15_refusal8_75 rfl cn_X15_110 ?_
              refine e_icmp_ne 84 80 dX15_refusal8_77 rfl rfl (fun c77 => ?_) (fun c77 => ?_)
              · have k77 := j_ne_t (a := (wd q 3)) (b := 65280) (by omega) (by omega) c77
                refine e_iconst 85 (v := (nI 3)) dX15_refusal8_84 rfl (by decide) ?_
                exact e_iret dX15_refusal8_85 rfl (by omega) (by omega) (⟨by rw [show r8F q = 3 by (unfold r8F dgF sdF; (repeat' split) <;> first | rfl | (exfalso; omega))], rfl⟩)
              · have k77 := j_ne_f (a := (wd q 3)) (b := 65280) (by omega) (by omega) c77
                refine e_iconst 81 (v := (nI 0)) dX15_refusal8_80 rfl (by decide) ?_
                refine e_goto 85 dX15_refusal8_81 rfl ?_
                exact e_iret dX15_refusal8_85 rfl (by omega) (by omega) (⟨by rw [show r8F q = 0 by (unfold r8F dgF sdF; (repeat' split) <;> first | rfl | (exfalso; omega))], rfl⟩)
        · have k54 := j_eq_f (a := q.length) (b := 5) (by omega) (by omega) c54
          refine e_iconst 58 (v := (nI 3)) dX15_refusal8_57 rfl (by decide) ?_
          exact e_iret dX15_refusal8_58 rfl (by omega) (by omega) (⟨by rw [show r8F q = 3 by (unfold r8F dgF sdF; (repeat' split) <;> first | rfl | (exfalso; omega))], rfl⟩)
      · have k25 := jin_ne_f c25
        refine e_iload_n 29 dX15_refusal8_28 rfl rfl ?_
        refine e_iconst 30 (v := (nI 4)) dX15_refusal8_29 rfl (by decide) ?_
        refine e_icmp_eq 52 33 dX15_refusal8_30 rfl rfl (fun c30 => ?_) (fun c30 => ?_)
        · have k30 := j_eq_t (a := (wd q 1)) (b := 4) (by omega) (by omega) c30
          refine e_iload_n 53 dX15_refusal8_52 rfl rfl ?_
          refine e_iconst 54 (v := (nI 5)) dX15_refusal8_53 rfl (by decide) ?_
          refine e_icmp_eq 59 57 dX15_refusal8_54 rfl rfl (fun c54 => ?_) (fun c54 => ?_)
          · have k54 := j_eq_t (a := q.length) (b := 5) (by omega) (by omega) c54
            refine e_aload_n 60 dX15_refusal8_59 rfl rfl ?_
            refine e_iconst 61 (v := (nI 3)) dX15_refusal8_60 rfl (by decide) ?_
            refine u_callS 64 dX15_refusal8_61 rfl cs_X15_85 (u_X15_two hR (k := 3) (by omega) (by omega)) rfl rfl (Nat.le_of_ble_eq_true rfl) (by decide) ⟨by omega, by omega⟩ ?_
            have w61 := wd_lt (k := 3) hq
            refine e_istore_n 65 (ls' := [some (.ref a), some (.int (nI q.length)), some (.int (nI (wd q 1))), some (.int (nI (wd q 3)))]) dX15_refusal8_64 rfl (by decide) rfl ?_
            refine e_iload_n 66 dX15_refusal8_65 rfl rfl ?_
            refine e_if_eq 80 69 dX15_refusal8_66 rfl rfl (fun c66 => ?_) (fun c66 => ?_)
            · have k66 := j_eq0_t (a := (wd q 3)) (by omega) c66
              refine e_iconst 81 (v := (nI 0)) dX15_refusal8_80 rfl (by decide) ?_
              refine e_goto 85 dX15_refusal8_81 rfl ?_
              exact e_iret dX15_refusal8_85 rfl (by omega) (by omega) (⟨by rw [show r8F q = 0 by (unfold r8F dgF sdF; (repeat' split) <;> first | rfl | (exfalso; omega))], rfl⟩)
            · have k66 := j_eq0_f (a := (wd q 3)) (by omega) c66
              refine e_iload_n 70 dX15_refusal8_69 rfl rfl ?_
              refine e_iconst 71 (v := (nI 1)) dX15_refusal8_70 rfl (by decide) ?_
              refine e_icmp_ne 84 74 dX15_refusal8_71 rfl rfl (fun c71 => ?_) (fun c71 => ?_)
              · have k71 := j_ne_t (a := (wd q 1)) (b := 1) (by omega) (by omega) c71
                refine e_iconst 85 (v := (nI 3)) dX15_refusal8_84 rfl (by decide) ?_
                exact e_iret dX15_refusal8_85 rfl (by omega) (by omega) (⟨by rw [show r8F q = 3 by (unfold r8F dgF sdF; (repeat' split) <;> first | rfl | (exfalso; omega))], rfl⟩)
              · have k71 := j_ne_f (a := (wd q 1)) (b := 1) (by omega) (by omega) c71
                refine e_iload_n 75 dX15_refusal8_74 rfl rfl ?_
                refine e_ldc 77 (v := (nI 65280)) dX15_refusal8_75 rfl cn_X15_110 ?_
                refine e_icmp_ne 84 80 dX15_refusal8_77 rfl rfl (fun c77 => ?_) (fun c77 => ?_)
                · have k77 := j_ne_t (a := (wd q 3)) (b := 65280) (by omega) (by omega) c77
                  refine e_iconst 85 (v := (nI 3)) dX15_refusal8_84 rfl (by decide) ?_
                  exact e_iret dX15_refusal8_85 rfl (by omega) (by omega) (⟨by rw [show r8F q = 3 by (unfold r8F dgF sdF; (repeat' split) <;> first | rfl | (exfalso; omega))], rfl⟩)
                · have k77 := j_ne_f (a := (wd q 3)) (b := 65280) (by omega) (by omega) c77
                  refine e_iconst 81 (v := (nI 0)) dX15_refusal8_80 rfl (by decide) ?_
                  refine e_goto 85 dX15_refusal8_81 rfl ?_
                  exact e_iret dX15_refusal8_85 rfl (by omega) (by omega) (⟨by rw [show r8F q = 0 by (unfold r8F dgF sdF; (repeat' split) <;> first | rfl | (exfalso; omega))], rfl⟩)
          · have k54 := j_eq_f (a := q.length) (b := 5) (by omega) (by omega) c54
            refine e_iconst 58 (v := (nI 3)) dX15_refusal8_57 rfl (by decide) ?_
            exact e_iret dX15_refusal8_58 rfl (by omega) (by omega) (⟨by rw [show r8F q = 3 by (unfold r8F dgF sdF; (repeat' split) <;> first | rfl | (exfalso; omega))], rfl⟩)
        · have k30 := j_eq_f (a := (wd q 1)) (b := 4) (by omega) (by omega) c30
          refine e_iload_n 34 dX15_refusal8_33 rfl rfl ?_
          refine e_bipush 36 (v := (nI 10)) dX15_refusal8_34 rfl (by decide) ?_
          refine e_bipush 38 (v := (nI 18)) dX15_refusal8_36 rfl (by decide) ?_
          refine u_callS 41 dX15_refusal8_38 rfl cs_X15_81 (u_inN (by omega) (by omega) (by omega)) rfl rfl (Nat.le_of_ble_eq_true rfl) (by decide) ⟨by omega, by omega⟩ ?_
          refine e_if_ne 52 44 dX15_refusal8_41 rfl rfl (fun c41 => ?_) (fun c41 => ?_)
          · have k41 := jin_ne_t c41
            refine e_iload_n 53 dX15_refusal8_52 rfl rfl ?_
            refine e_iconst 54 (v := (nI 5)) dX15_refusal8_53 rfl (by decide) ?_
            refine e_icmp_eq 59 57 dX15_refusal8_54 rfl rfl (fun c54 => ?_) (fun c54 => ?_)
            · have k54 := j_eq_t (a := q.length) (b := 5) (by omega) (by omega) c54
              refine e_aload_n 60 dX15_refusal8_59 rfl rfl ?_
              refine e_iconst 61 (v := (nI 3)) dX15_refusal8_60 rfl (by decide) ?_
              refine u_callS 64 dX15_refusal8_61 rfl cs_X15_85 (u_X15_two hR (k := 3) (by omega) (by omega)) rfl rfl (Nat.le_of_ble_eq_true rfl) (by decide) ⟨by omega, by omega⟩ ?_
              have w61 := wd_lt (k := 3) hq
              refine e_istore_n 65 (ls' := [some (.ref a), some (.int (nI q.length)), some (.int (nI (wd q 1))), some (.int (nI (wd q 3)))]) dX15_refusal8_64 rfl (by decide) rfl ?_
              refine e_iload_n 66 dX15_refusal8_65 rfl rfl ?_
              refine e_if_eq 80 69 dX15_refusal8_66 rfl rfl (fun c66 => ?_) (fun c66 => ?_)
              · have k66 := j_eq0_t (a := (wd q 3)) (by omega) c66
                refine e_iconst 81 (v := (nI 0)) dX15_refusal8_80 rfl (by decide) ?_
                refine e_goto 85 dX15_refusal8_81 rfl ?_
                exact e_iret dX15_refusal8_85 rfl (by omega) (by omega) (⟨by rw [show r8F q = 0 by (unfold r8F dgF sdF; (repeat' split) <;> first | rfl | (exfalso; omega))], rfl⟩)
              · have k66 := j_eq0_f (a := (wd q 3)) (by omega) c66
                refine e_iload_n 70 dX15_refusal8_69 rfl rfl ?_
                refine e_iconst 71 (v := (nI 1)) dX15_refusal8_70 rfl (by decide) ?_
                refine e_icmp_ne 84 74 dX15_refusal8_71 rfl rfl (fun c71 => ?_) (fun c71 => ?_)
                · have k71 := j_ne_t (a := (wd q 1)) (b := 1) (by omega) (by omega) c71
                  refine e_iconst 85 (v := (nI 3)) dX15_refusal8_84 rfl (by decide) ?_
                  exact e_iret dX15_refusal8_85 rfl (by omega) (by omega) (⟨by rw [show r8F q = 3 by (unfold r8F dgF sdF; (repeat' split) <;> first | rfl | (exfalso; omega))], rfl⟩)
                · have k71 := j_ne_f (a := (wd q 1)) (b := 1) (by omega) (by omega) c71
                  refine e_iload_n 75 dX15_refusal8_74 rfl rfl ?_
                  refine e_ldc 77 (v := (nI 65280)) dX15_refusal8_75 rfl cn_X15_110 ?_
                  refine e_icmp_ne 84 80 dX15_refusal8_77 rfl rfl (fun c77 => ?_) (fun c77 => ?_)
                  · have k77 := j_ne_t (a := (wd q 3)) (b := 65280) (by omega) (by omega) c77
                    refine e_iconst 85 (v := (nI 3)) dX15_refusal8_84 rfl (by decide) ?_
                    exact e_iret dX15_refusal8_85 rfl (by omega) (by omega) (⟨by rw [show r8F q = 3 by (unfold r8F dgF sdF; (repeat' split) <;> first | rfl | (exfalso; omega))], rfl⟩)
                  · have k77 := j_ne_f (a := (wd q 3)) (b := 65280) (by omega) (by omega) c77
                    refine e_iconst 81 (v := (nI 0)) dX15_refusal8_80 rfl (by decide) ?_
                    refine e_goto 85 dX15_refusal8_81 rfl ?_
                    exact e_iret dX15_refusal8_85 rfl (by omega) (by omega) (⟨by rw [show r8F q = 0 by (unfold r8F dgF sdF; (repeat' split) <;> first | rfl | (exfalso; omega))], rfl⟩)
            · have k54 := j_eq_f (a := q.length) (b := 5) (by omega) (by omega) c54
              refine e_iconst 58 (v := (nI 3)) dX15_refusal8_57 rfl (by decide) ?_
              exact e_iret dX15_refusal8_58 rfl (by omega) (by omega) (⟨by rw [show r8F q = 3 by (unfold r8F dgF sdF; (repeat' split) <;> first | rfl | (exfalso; omega))], rfl⟩)
          · have k41 := jin_ne_f c41
            refine e_iload_n 45 dX15_refusal8_44 rfl rfl ?_
            refine e_bipush 47 (v := (nI 20)) dX15_refusal8_45 rfl (by decide) ?_
            refine e_icmp_eq 52 50 dX15_refusal8_47 rfl rfl (fun c47 => ?_) (fun c47 => ?_)
            · have k47 := j_eq_t (a := (wd q 1)) (b := 20) (by omega) (by omega) c47
              refine e_iload_n 53 dX15_refusal8_52 rfl rfl ?_
              refine e_iconst 54 (v := (nI 5)) dX15_refusal8_53 rfl (by decide) ?_
              refine e_icmp_eq 59 57 dX15_refusal8_54 rfl rfl (fun c54 => ?_) (fun c54 => ?_)
              · have k54 := j_eq_t (a := q.length) (b := 5) (by omega) (by omega) c54
                refine e_aload_n 60 dX15_refusal8_59 rfl rfl ?_
                refine e_iconst 61 (v := (nI 3)) dX15_refusal8_60 rfl (by decide) ?_
                refine u_callS 64 dX15_refusal8_61 rfl cs_X15_85 (u_X15_two hR (k := 3) (by omega) (by omega)) rfl rfl (Nat.le_of_ble_eq_true rfl) (by decide) ⟨by omega, by omega⟩ ?_
                have w61 := wd_lt (k := 3) hq
                refine e_istore_n 65 (ls' := [some (.ref a), some (.int (nI q.length)), some (.int (nI (wd q 1))), some (.int (nI (wd q 3)))]) dX15_refusal8_64 rfl (by decide) rfl ?_
                refine e_iload_n 66 dX15_refusal8_65 rfl rfl ?_
                refine e_if_eq 80 69 dX15_refusal8_66 rfl rfl (fun c66 => ?_) (fun c66 => ?_)
                · have k66 := j_eq0_t (a := (wd q 3)) (by omega) c66
                  refine e_iconst 81 (v := (nI 0)) dX15_refusal8_80 rfl (by decide) ?_
                  refine e_goto 85 dX15_refusal8_81 rfl ?_
                  exact e_iret dX15_refusal8_85 rfl (by omega) (by omega) (⟨by rw [show r8F q = 0 by (unfold r8F dgF sdF; (repeat' split) <;> first | rfl | (exfalso; omega))], rfl⟩)
                · have k66 := j_eq0_f (a := (wd q 3)) (by omega) c66
                  refine e_iload_n 70 dX15_refusal8_69 rfl rfl ?_
                  refine e_iconst 71 (v := (nI 1)) dX15_refusal8_70 rfl (by decide) ?_
                  refine e_icmp_ne 84 74 dX15_refusal8_71 rfl rfl (fun c71 => ?_) (fun c71 => ?_)
                  · have k71 := j_ne_t (a := (wd q 1)) (b := 1) (by omega) (by omega) c71
                    refine e_iconst 85 (v := (nI 3)) dX15_refusal8_84 rfl (by decide) ?_
                    exact e_iret dX15_refusal8_85 rfl (by omega) (by omega) (⟨by rw [show r8F q = 3 by (unfold r8F dgF sdF; (repeat' split) <;> first | rfl | (exfalso; omega))], rfl⟩)
                  · have k71 := j_ne_f (a := (wd q 1)) (b := 1) (by omega) (by omega) c71
                    refine e_iload_n 75 dX15_refusal8_74 rfl rfl ?_
                    refine e_ldc 77 (v := (nI 65280)) dX15_refusal8_75 rfl cn_X15_110 ?_
                    refine e_icmp_ne 84 80 dX15_refusal8_77 rfl rfl (fun c77 => ?_) (fun c77 => ?_)
                    · have k77 := j_ne_t (a := (wd q 3)) (b := 65280) (by omega) (by omega) c77
                      refine e_iconst 85 (v := (nI 3)) dX15_refusal8_84 rfl (by decide) ?_
                      exact e_iret dX15_refusal8_85 rfl (by omega) (by omega) (⟨by rw [show r8F q = 3 by (unfold r8F dgF sdF; (repeat' split) <;> first | rfl | (exfalso; omega))], rfl⟩)
                    · have k77 := j_ne_f (a := (wd q 3)) (b := 65280) (by omega) (by omega) c77
                      refine e_iconst 81 (v := (nI 0)) dX15_refusal8_80 rfl (by decide) ?_
                      refine e_goto 85 dX15_refusal8_81 rfl ?_
                      exact e_iret dX15_refusal8_85 rfl (by omega) (by omega) (⟨by rw [show r8F q = 0 by (unfold r8F dgF sdF; (repeat' split) <;> first | rfl | (exfalso; omega))], rfl⟩)
              · have k54 := j_eq_f (a := q.length) (b := 5) (by omega) (by omega) c54
                refine e_iconst 58 (v := (nI 3)) dX15_refusal8_57 rfl (by decide) ?_
                exact e_iret dX15_refusal8_58 rfl (by omega) (by omega) (⟨by rw [show r8F q = 3 by (unfold r8F dgF sdF; (repeat' split) <;> first | rfl | (exfalso; omega))], rfl⟩)
            · have k47 := j_eq_f (a := (wd q 1)) (b := 20) (by omega) (by omega) c47
              refine e_iconst 51 (v := (nI 1)) dX15_refusal8_50 rfl (by decide) ?_
              exact e_iret dX15_refusal8_51 rfl (by omega) (by omega) (⟨by rw [show r8F q = 1 by (unfold r8F dgF sdF; (repeat' split) <;> first | rfl | (exfalso; omega))], rfl⟩)
    · have k14 := j_ne0_f (a := (wd q 1)) (by omega) c14
      refine e_iconst 18 (v := (nI 0)) dX15_refusal8_17 rfl (by decide) ?_
      exact e_iret dX15_refusal8_18 rfl (by omega) (by omega) (⟨by rw [show r8F q = 0 by (unfold r8F dgF sdF; (repeat' split) <;> first | rfl | (exfalso; omega))], rfl⟩)
  · have k2 := j_ge_f (a := q.length) (b := 3) (by omega) (by omega) c2
    refine e_iconst 6 (v := (nI 3)) dX15_refusal8_5 rfl (by decide) ?_
    exact e_iret dX15_refusal8_6 rfl (by omega) (by omega) (⟨by rw [show r8F q = 3 by (unfold r8F dgF sdF; (repeat' split) <;> first | rfl | (exfalso; omega))], rfl⟩)
theorem wpE_out {q : List Nat} {i : Nat} (h : ¬ i + 7 ≤ q.length) : ∀ t, wpE q t i = i
  | 0 => rfl
  | t + 1 => by rw [wpE, if_neg h]
set_option maxRecDepth 20000 in
set_option maxHeartbeats 2000000 in
theorem ul_shaped20 {a qn : Nat} {q : List Nat} {h : eH} (hR : iaR a qn q h) (hqn : qn < 100000) (hq : ∀ x ∈ q, x < 256) (h1 : 1 ≤ q.length) (hf : q.getD 0 0 = 20) (h7 : 7 ≤ q.getD 1 0 ∧ q.getD 1 0 ≤ 245) (hm : q.getD 1 0 % 7 = 0) (hl : q.length = 2 + q.getD 1 0) : ∀ (n : Nat) (j : Nat), q.length - 7 * j < n → 2 + 7 * j ≤ q.length → EE mX15_isShaped 1 22 0 0 (fun x9 h9 => x9 = some (.int (bI (decide (shF q = 0)))) ∧ h9 = h) 467 [some (.ref a), some (.int (nI q.length)), some (.int (nI (rdS q j))), some (.int (nI (2 + 7 * j)))] [] h 0 0 := by
  intro n
  induction n with
  | zero => intro j hlt hi; exact absurd hlt (by omega)
  | succ n ih =>
    intro j hlt hi
    have hle := hR.le
    have hrd := rdS_lt hq j
    have hwj := wd_lt (k := 2 + 7 * j + 5) hq
    refine e_iload_n 468 dX15_isShaped_467 rfl rfl ?_
    refine e_iload_n 469 dX15_isShaped_468 rfl rfl ?_
    refine e_icmp_ge 492 472 dX15_isShaped_469 rfl rfl (fun c469 => ?_) (fun c469 => ?_)
    · have k469 := j_ge_t (a := (2 + 7 * j)) (b := q.length) (by omega) (by omega) c469
      refine e_iload_n 493 dX15_isShaped_492 rfl rfl ?_
      refine e_sipush 496 (v := (nI 253)) dX15_isShaped_493 rfl (by decide) ?_
      refine e_icmp_gt 503 499 dX15_isShaped_496 rfl rfl (fun c496 => ?_) (fun c496 => ?_)
      · have k496 := j_gt_t (a := (rdS q j)) (b := 253) (by omega) (by omega) c496
        refine e_iconst 504 (v := (nI 0)) dX15_isShaped_503 rfl (by decide) ?_
        exact e_zret dX15_isShaped_504 rfl (Or.inl (by decide)) (by omega) (by omega) (⟨by rw [show decide (shF q = 0) = false by (rw [shF, if_neg (by omega), if_neg (by omega), if_neg (by omega), if_neg (by omega), if_neg (by omega), if_neg (by omega), if_neg (by omega), if_pos (by omega)]; rw [show rdP q = false by (unfold rdP; rw [show q.getD 1 0 / 7 = j by omega]; (try simp only [Bool.and_eq_true, Bool.or_eq_true, Bool.not_eq_true', Bool.and_eq_false_iff, Bool.or_eq_false_iff, Bool.not_eq_false', decide_eq_true_eq, decide_eq_false_iff_not, Bool.false_or, Bool.true_or, Bool.or_false, Bool.or_true, Bool.not_false, Bool.not_true, Bool.true_and, Bool.false_and, Bool.and_true, Bool.and_false, reduceCtorEq]) <;> (try omega))]; rfl)]; rfl, rfl⟩)
      · have k496 := j_gt_f (a := (rdS q j)) (b := 253) (by omega) (by omega) c496
        refine e_iconst 500 (v := (nI 1)) dX15_isShaped_499 rfl (by decide) ?_
        refine e_goto 504 dX15_isShaped_500 rfl ?_
        exact e_zret dX15_isShaped_504 rfl (Or.inr (by decide)) (by omega) (by omega) (⟨by rw [show decide (shF q = 0) = true by (rw [shF, if_neg (by omega), if_neg (by omega), if_neg (by omega), if_neg (by omega), if_neg (by omega), if_neg (by omega), if_neg (by omega), if_pos (by omega)]; rw [show rdP q = true by (unfold rdP; rw [show q.getD 1 0 / 7 = j by omega]; (try simp only [Bool.and_eq_true, Bool.or_eq_true, Bool.not_eq_true', Bool.and_eq_false_iff, Bool.or_eq_false_iff, Bool.not_eq_false', decide_eq_true_eq, decide_eq_false_iff_not, Bool.false_or, Bool.true_or, Bool.or_false, Bool.or_true, Bool.not_false, Bool.not_true, Bool.true_and, Bool.false_and, Bool.and_true, Bool.and_false, reduceCtorEq]) <;> (try omega))]; rfl)]; rfl, rfl⟩)
    · have k469 := j_ge_f (a := (2 + 7 * j)) (b := q.length) (by omega) (by omega) c469
      refine e_iload_n 473 dX15_isShaped_472 rfl rfl ?_
      refine e_iconst 474 (v := (nI 2)) dX15_isShaped_473 rfl (by decide) ?_
      refine e_iconst 475 (v := (nI 2)) dX15_isShaped_474 rfl (by decide) ?_
      refine e_aload_n 476 dX15_isShaped_475 rfl rfl ?_
      refine e_iload_n 477 dX15_isShaped_476 rfl rfl ?_
      refine e_iconst 478 (v := (nI 5)) dX15_isShaped_477 rfl (by decide) ?_
      refine e_iadd 479 (v := (nI ((2 + 7 * j) + 5))) dX15_isShaped_478 rfl (nI_add (2 + 7 * j) 5) ?_
      refine u_callS 482 dX15_isShaped_479 rfl cs_X15_85 (u_X15_two hR (k := ((2 + 7 * j) + 5)) (by omega) (by omega)) rfl rfl (Nat.le_of_ble_eq_true rfl) (by decide) ⟨by omega, by omega⟩ ?_
      have w479 := wd_lt (k := ((2 + 7 * j) + 5)) hq
      refine e_imul 483 (v := (nI (2 * (wd q ((2 + 7 * j) + 5))))) dX15_isShaped_482 rfl (pk_mul 2 (wd q ((2 + 7 * j) + 5))) ?_
      refine e_iadd 484 (v := (nI (2 + (2 * (wd q ((2 + 7 * j) + 5)))))) dX15_isShaped_483 rfl (nI_add 2 (2 * (wd q ((2 + 7 * j) + 5)))) ?_
      refine e_iadd 485 (v := (nI ((rdS q j) + (2 + (2 * (wd q ((2 + 7 * j) + 5))))))) dX15_isShaped_484 rfl (nI_add (rdS q j) (2 + (2 * (wd q ((2 + 7 * j) + 5))))) ?_
      refine e_istore_n 486 (ls' := [some (.ref a), some (.int (nI q.length)), some (.int (nI ((rdS q j) + (2 + (2 * (wd q ((2 + 7 * j) + 5))))))), some (.int (nI (2 + 7 * j)))]) dX15_isShaped_485 rfl (by decide) rfl ?_
      refine e_iinc 489 (v := (nI ((2 + 7 * j) + 7))) (ls' := [some (.ref a), some (.int (nI q.length)), some (.int (nI ((rdS q j) + (2 + (2 * (wd q ((2 + 7 * j) + 5))))))), some (.int (nI ((2 + 7 * j) + 7)))]) dX15_isShaped_486 rfl rfl (nI_add (2 + 7 * j) 7) (by decide) rfl ?_
      refine e_goto 467 dX15_isShaped_489 rfl ?_
      refine e_wk [some (.ref a), some (.int (nI q.length)), some (.int (nI (rdS q (j + 1)))), some (.int (nI (2 + 7 * (j + 1))))] ⟨rfl, rfl, by rw [rdS], by rw [show 2 + 7 * (j + 1) = 2 + 7 * j + 7 by omega], trivial⟩ ?_
      exact ih (j + 1) (by omega) (by omega)
set_option maxRecDepth 20000 in
set_option maxHeartbeats 2000000 in
theorem ul_shaped21 {a qn : Nat} {q : List Nat} {h : eH} (hR : iaR a qn q h) (hqn : qn < 100000) (hq : ∀ x ∈ q, x < 256) (h1 : 1 ≤ q.length) (hf : q.getD 0 0 = 21) (h7 : 9 ≤ q.getD 1 0 ∧ q.getD 1 0 ≤ 251) (hl : q.length = 2 + q.getD 1 0) : ∀ (n : Nat) (p t i : Nat), 37 - p < n → p + t = 36 → 2 + 7 * p ≤ i → i ≤ 2 + p * 200000 → wpE q t i = wpE q 36 2 → EE mX15_isShaped 1 22 0 0 (fun x9 h9 => x9 = some (.int (bI (decide (shF q = 0)))) ∧ h9 = h) 537 [some (.ref a), some (.int (nI q.length)), some (.int (nI i)), none] [] h 0 0 := by
  intro n
  induction n with
  | zero => intro p t i hlt hpt hi0 hi he; exact absurd hlt (by omega)
  | succ n ih =>
    intro p t i hlt hpt hi0 hi he
    have hle := hR.le
    have hwj := wd_lt (k := i + 5) hq
    refine e_iload_n 538 dX15_isShaped_537 rfl rfl ?_
    refine e_bipush 540 (v := (nI 7)) dX15_isShaped_538 rfl (by decide) ?_
    refine e_iadd 541 (v := (nI (i + 7))) dX15_isShaped_540 rfl (nI_add i 7) ?_
    refine e_iload_n 542 dX15_isShaped_541 rfl rfl ?_
    refine e_icmp_gt 563 545 dX15_isShaped_542 rfl rfl (fun c542 => ?_) (fun c542 => ?_)
    · have k542 := j_gt_t (a := (i + 7)) (b := q.length) (by omega) (by omega) c542
      refine e_iload_n 564 dX15_isShaped_563 rfl rfl ?_
      refine e_iload_n 565 dX15_isShaped_564 rfl rfl ?_
      refine e_icmp_ne 572 568 dX15_isShaped_565 rfl rfl (fun c565 => ?_) (fun c565 => ?_)
      · have k565 := j_ne_t (a := i) (b := q.length) (by omega) (by omega) c565
        refine e_iconst 573 (v := (nI 0)) dX15_isShaped_572 rfl (by decide) ?_
        exact e_zret dX15_isShaped_573 rfl (Or.inl (by decide)) (by omega) (by omega) (⟨by rw [show decide (shF q = 0) = false by (rw [shF, if_neg (by omega), if_neg (by omega), if_neg (by omega), if_neg (by omega), if_neg (by omega), if_neg (by omega), if_neg (by omega), if_neg (by omega), if_pos (by omega)]; rw [show wrP q = false by (unfold wrP; rw [show wpE q 36 2 = i by (rw [← he]; exact wpE_out (by omega) t)]; (try simp only [Bool.and_eq_true, Bool.or_eq_true, Bool.not_eq_true', Bool.and_eq_false_iff, Bool.or_eq_false_iff, Bool.not_eq_false', decide_eq_true_eq, decide_eq_false_iff_not, Bool.false_or, Bool.true_or, Bool.or_false, Bool.or_true, Bool.not_false, Bool.not_true, Bool.true_and, Bool.false_and, Bool.and_true, Bool.and_false, reduceCtorEq]) <;> (try omega))]; rfl)]; rfl, rfl⟩)
      · have k565 := j_ne_f (a := i) (b := q.length) (by omega) (by omega) c565
        refine e_iconst 569 (v := (nI 1)) dX15_isShaped_568 rfl (by decide) ?_
        refine e_goto 573 dX15_isShaped_569 rfl ?_
        exact e_zret dX15_isShaped_573 rfl (Or.inr (by decide)) (by omega) (by omega) (⟨by rw [show decide (shF q = 0) = true by (rw [shF, if_neg (by omega), if_neg (by omega), if_neg (by omega), if_neg (by omega), if_neg (by omega), if_neg (by omega), if_neg (by omega), if_neg (by omega), if_pos (by omega)]; rw [show wrP q = true by (unfold wrP; rw [show wpE q 36 2 = i by (rw [← he]; exact wpE_out (by omega) t)]; (try simp only [Bool.and_eq_true, Bool.or_eq_true, Bool.not_eq_true', Bool.and_eq_false_iff, Bool.or_eq_false_iff, Bool.not_eq_false', decide_eq_true_eq, decide_eq_false_iff_not, Bool.false_or, Bool.true_or, Bool.or_false, Bool.or_true, Bool.not_false, Bool.not_true, Bool.true_and, Bool.false_and, Bool.and_true, Bool.and_false, reduceCtorEq]) <;> (try omega))]; rfl)]; rfl, rfl⟩)
    · have k542 := j_gt_f (a := (i + 7)) (b := q.length) (by omega) (by omega) c542
      refine e_iload_n 546 dX15_isShaped_545 rfl rfl ?_
      refine e_bipush 548 (v := (nI 7)) dX15_isShaped_546 rfl (by decide) ?_
      refine e_iconst 549 (v := (nI 2)) dX15_isShaped_548 rfl (by decide) ?_
      refine e_aload_n 550 dX15_isShaped_549 rfl rfl ?_
      refine e_iload_n 551 dX15_isShaped_550 rfl rfl ?_
      refine e_iconst 552 (v := (nI 5)) dX15_isShaped_551 rfl (by decide) ?_
      refine e_iadd 553 (v := (nI (i + 5))) dX15_isShaped_552 rfl (nI_add i 5) ?_
      refine u_callS 556 dX15_isShaped_553 rfl cs_X15_85 (u_X15_two hR (k := (i + 5)) (by omega) (by omega)) rfl rfl (Nat.le_of_ble_eq_true rfl) (by decide) ⟨by omega, by omega⟩ ?_
      have w553 := wd_lt (k := (i + 5)) hq
      refine e_imul 557 (v := (nI (2 * (wd q (i + 5))))) dX15_isShaped_556 rfl (pk_mul 2 (wd q (i + 5))) ?_
      refine e_iadd 558 (v := (nI (7 + (2 * (wd q (i + 5)))))) dX15_isShaped_557 rfl (nI_add 7 (2 * (wd q (i + 5)))) ?_
      refine e_iadd 559 (v := (nI (i + (7 + (2 * (wd q (i + 5))))))) dX15_isShaped_558 rfl (nI_add i (7 + (2 * (wd q (i + 5))))) ?_
      refine e_istore_n 560 (ls' := [some (.ref a), some (.int (nI q.length)), some (.int (nI (i + (7 + (2 * (wd q (i + 5))))))), none]) dX15_isShaped_559 rfl (by decide) rfl ?_
      refine e_goto 537 dX15_isShaped_560 rfl ?_
      obtain ⟨t, rfl⟩ : ∃ t1, t = t1 + 1 := ⟨t - 1, by omega⟩
      refine e_wk [some (.ref a), some (.int (nI q.length)), some (.int (nI (i + (7 + 2 * wd q (i + 5))))), none] ⟨rfl, rfl, rfl, trivial⟩ ?_
      exact ih (p + 1) t (i + (7 + 2 * wd q (i + 5))) (by omega) (by omega) (by omega) (by omega) (by rw [← he, wpE, if_pos (by omega)])
set_option maxRecDepth 20000 in
set_option maxHeartbeats 2000000 in
theorem u_X15_isShaped {a qn : Nat} {q : List Nat} {h : eH} (hR : iaR a qn q h) (hqn : qn < 100000) (hq : ∀ x ∈ q, x < 256) (h1 : 1 ≤ q.length) : PC mX15_isShaped [.ref a, .int (nI q.length)] h (some (.int (bI (decide (shF q = 0))))) 1 22 := by
  have hle := hR.le
  refine PC.mk 2 (ls := [some (.ref a), some (.int (nI q.length)), none, none]) rfl rfl (Nat.le_of_ble_eq_true rfl) rfl ?_
  refine e_aload_n 1 dX15_isShaped_0 rfl rfl ?_
  refine e_iconst 2 (v := (nI 0)) dX15_isShaped_1 rfl (by decide) ?_
  have b2 := gd_lt (i := 0) hq (by decide)
  refine v_iald 3 hR (k := 0) (x := (q.getD 0 0)) dX15_isShaped_2 rfl (by omega) (by omega) rfl ?_
  rcases (show ((q.getD 0 0) < 1 ∨ 43 < (q.getD 0 0)) ∨ ((q.getD 0 0) = 1 ∨ (q.getD 0 0) = 2) ∨ ((q.getD 0 0) = 3 ∨ (q.getD 0 0) = 4) ∨ ((q.getD 0 0) = 5 ∨ (q.getD 0 0) = 6) ∨ ((q.getD 0 0) = 7 ∨ (q.getD 0 0) = 11 ∨ (q.getD 0 0) = 12 ∨ (q.getD 0 0) = 17) ∨ ((q.getD 0 0) = 8) ∨ ((q.getD 0 0) = 9 ∨ (q.getD 0 0) = 10 ∨ (q.getD 0 0) = 13 ∨ (q.getD 0 0) = 14 ∨ (q.getD 0 0) = 18 ∨ (q.getD 0 0) = 19 ∨ (q.getD 0 0) = 25 ∨ (q.getD 0 0) = 26 ∨ (q.getD 0 0) = 27 ∨ (q.getD 0 0) = 28 ∨ (q.getD 0 0) = 29 ∨ (q.getD 0 0) = 30 ∨ (q.getD 0 0) = 31 ∨ (q.getD 0 0) = 32 ∨ (q.getD 0 0) = 33 ∨ (q.getD 0 0) = 34 ∨ (q.getD 0 0) = 35 ∨ (q.getD 0 0) = 36 ∨ (q.getD 0 0) = 37 ∨ (q.getD 0 0) = 38 ∨ (q.getD 0 0) = 39 ∨ (q.getD 0 0) = 40 ∨ (q.getD 0 0) = 41 ∨ (q.getD 0 0) = 42) ∨ ((q.getD 0 0) = 15) ∨ ((q.getD 0 0) = 16) ∨ ((q.getD 0 0) = 20) ∨ ((q.getD 0 0) = 21) ∨ ((q.getD 0 0) = 22) ∨ ((q.getD 0 0) = 23) ∨ ((q.getD 0 0) = 24) ∨ ((q.getD 0 0) = 43) by omega) with s3 | s3 | s3 | s3 | s3 | s3 | s3 | s3 | s3 | s3 | s3 | s3 | s3 | s3 | s3
  · refine e_tableOut 694 dX15_isShaped_3 (by rw [nI_toInt (by omega)]; omega) rfl ?_
    refine e_iconst 695 (v := (nI 0)) dX15_isShaped_694 rfl (by decide) ?_
    exact e_zret dX15_isShaped_695 rfl (Or.inl (by decide)) (by omega) (by omega) (⟨by rw [show decide (shF q = 0) = false by (rw [shF, if_neg (by omega), if_neg (by omega), if_neg (by omega), if_neg (by omega), if_neg (by omega), if_neg (by omega), if_neg (by omega), if_neg (by omega), if_neg (by omega), if_neg (by omega), if_neg (by omega), if_neg (by omega), if_neg (by omega)]; (repeat' split) <;> first | rfl | (exfalso; omega))]; rfl, rfl⟩)
  · refine e_tableIn 188 (off := 185) dX15_isShaped_3 (by rw [nI_toInt (by omega)]; omega) (by rw [nI_toInt (by omega)]; omega) (by rcases s3 with s3 | s3 <;> rw [s3] <;> decide) rfl ?_
    refine e_iload_n 189 dX15_isShaped_188 rfl rfl ?_
    refine e_iconst 190 (v := (nI 5)) dX15_isShaped_189 rfl (by decide) ?_
    refine e_icmp_ne 212 193 dX15_isShaped_190 rfl rfl (fun c190 => ?_) (fun c190 => ?_)
    · have k190 := j_ne_t (a := q.length) (b := 5) (by omega) (by omega) c190
      refine e_iconst 213 (v := (nI 0)) dX15_isShaped_212 rfl (by decide) ?_
      exact e_zret dX15_isShaped_213 rfl (Or.inl (by decide)) (by omega) (by omega) (⟨by rw [show decide (shF q = 0) = false by (rw [shF, if_pos (by omega)]; (repeat' split) <;> first | rfl | (exfalso; omega))]; rfl, rfl⟩)
    · have k190 := j_ne_f (a := q.length) (b := 5) (by omega) (by omega) c190
      refine e_aload_n 194 dX15_isShaped_193 rfl rfl ?_
      refine e_iconst 195 (v := (nI 3)) dX15_isShaped_194 rfl (by decide) ?_
      refine u_callS 198 dX15_isShaped_195 rfl cs_X15_85 (u_X15_two hR (k := 3) (by omega) (by omega)) rfl rfl (Nat.le_of_ble_eq_true rfl) (by decide) ⟨by omega, by omega⟩ ?_
      have w195 := wd_lt (k := 3) hq
      refine e_iconst 199 (v := (nI 1)) dX15_isShaped_198 rfl (by decide) ?_
      refine e_sipush 202 (v := (nI 2000)) dX15_isShaped_199 rfl (by decide) ?_
      refine u_callS 205 dX15_isShaped_202 rfl cs_X15_81 (u_inN (by omega) (by omega) (by omega)) rfl rfl (Nat.le_of_ble_eq_true rfl) (by decide) ⟨by omega, by omega⟩ ?_
      refine e_if_eq 212 208 dX15_isShaped_205 rfl rfl (fun c205 => ?_) (fun c205 => ?_)
      · have k205 := jin_eq_t c205
        refine e_iconst 213 (v := (nI 0)) dX15_isShaped_212 rfl (by decide) ?_
        exact e_zret dX15_isShaped_213 rfl (Or.inl (by decide)) (by omega) (by omega) (⟨by rw [show decide (shF q = 0) = false by (rw [shF, if_pos (by omega)]; (repeat' split) <;> first | rfl | (exfalso; omega))]; rfl, rfl⟩)
      · have k205 := jin_eq_f c205
        refine e_iconst 209 (v := (nI 1)) dX15_isShaped_208 rfl (by decide) ?_
        refine e_goto 213 dX15_isShaped_209 rfl ?_
        exact e_zret dX15_isShaped_213 rfl (Or.inr (by decide)) (by omega) (by omega) (⟨by rw [show decide (shF q = 0) = true by (rw [shF, if_pos (by omega)]; (repeat' split) <;> first | rfl | (exfalso; omega))]; rfl, rfl⟩)
  · refine e_tableIn 214 (off := 211) dX15_isShaped_3 (by rw [nI_toInt (by omega)]; omega) (by rw [nI_toInt (by omega)]; omega) (by rcases s3 with s3 | s3 <;> rw [s3] <;> decide) rfl ?_
    refine e_iload_n 215 dX15_isShaped_214 rfl rfl ?_
    refine e_iconst 216 (v := (nI 5)) dX15_isShaped_215 rfl (by decide) ?_
    refine e_icmp_ne 237 219 dX15_isShaped_216 rfl rfl (fun c216 => ?_) (fun c216 => ?_)
    · have k216 := j_ne_t (a := q.length) (b := 5) (by omega) (by omega) c216
      refine e_iconst 238 (v := (nI 0)) dX15_isShaped_237 rfl (by decide) ?_
      exact e_zret dX15_isShaped_238 rfl (Or.inl (by decide)) (by omega) (by omega) (⟨by rw [show decide (shF q = 0) = false by (rw [shF, if_neg (by omega), if_pos (by omega)]; (repeat' split) <;> first | rfl | (exfalso; omega))]; rfl, rfl⟩)
    · have k216 := j_ne_f (a := q.length) (b := 5) (by omega) (by omega) c216
      refine e_aload_n 220 dX15_isShaped_219 rfl rfl ?_
      refine e_iconst 221 (v := (nI 3)) dX15_isShaped_220 rfl (by decide) ?_
      refine u_callS 224 dX15_isShaped_221 rfl cs_X15_85 (u_X15_two hR (k := 3) (by omega) (by omega)) rfl rfl (Nat.le_of_ble_eq_true rfl) (by decide) ⟨by omega, by omega⟩ ?_
      have w221 := wd_lt (k := 3) hq
      refine e_iconst 225 (v := (nI 1)) dX15_isShaped_224 rfl (by decide) ?_
      refine e_bipush 227 (v := (nI 125)) dX15_isShaped_225 rfl (by decide) ?_
      refine u_callS 230 dX15_isShaped_227 rfl cs_X15_81 (u_inN (by omega) (by omega) (by omega)) rfl rfl (Nat.le_of_ble_eq_true rfl) (by decide) ⟨by omega, by omega⟩ ?_
      refine e_if_eq 237 233 dX15_isShaped_230 rfl rfl (fun c230 => ?_) (fun c230 => ?_)
      · have k230 := jin_eq_t c230
        refine e_iconst 238 (v := (nI 0)) dX15_isShaped_237 rfl (by decide) ?_
        exact e_zret dX15_isShaped_238 rfl (Or.inl (by decide)) (by omega) (by omega) (⟨by rw [show decide (shF q = 0) = false by (rw [shF, if_neg (by omega), if_pos (by omega)]; (repeat' split) <;> first | rfl | (exfalso; omega))]; rfl, rfl⟩)
      · have k230 := jin_eq_f c230
        refine e_iconst 234 (v := (nI 1)) dX15_isShaped_233 rfl (by decide) ?_
        refine e_goto 238 dX15_isShaped_234 rfl ?_
        exact e_zret dX15_isShaped_238 rfl (Or.inr (by decide)) (by omega) (by omega) (⟨by rw [show decide (shF q = 0) = true by (rw [shF, if_neg (by omega), if_pos (by omega)]; (repeat' split) <;> first | rfl | (exfalso; omega))]; rfl, rfl⟩)
  · refine e_tableIn 239 (off := 236) dX15_isShaped_3 (by rw [nI_toInt (by omega)]; omega) (by rw [nI_toInt (by omega)]; omega) (by rcases s3 with s3 | s3 <;> rw [s3] <;> decide) rfl ?_
    refine e_iload_n 240 dX15_isShaped_239 rfl rfl ?_
    refine e_iconst 241 (v := (nI 5)) dX15_isShaped_240 rfl (by decide) ?_
    refine e_icmp_ne 248 244 dX15_isShaped_241 rfl rfl (fun c241 => ?_) (fun c241 => ?_)
    · have k241 := j_ne_t (a := q.length) (b := 5) (by omega) (by omega) c241
      refine e_iconst 249 (v := (nI 0)) dX15_isShaped_248 rfl (by decide) ?_
      exact e_zret dX15_isShaped_249 rfl (Or.inl (by decide)) (by omega) (by omega) (⟨by rw [show decide (shF q = 0) = false by (rw [shF, if_neg (by omega), if_neg (by omega), if_pos (by omega)]; (repeat' split) <;> first | rfl | (exfalso; omega))]; rfl, rfl⟩)
    · have k241 := j_ne_f (a := q.length) (b := 5) (by omega) (by omega) c241
      refine e_iconst 245 (v := (nI 1)) dX15_isShaped_244 rfl (by decide) ?_
      refine e_goto 249 dX15_isShaped_245 rfl ?_
      exact e_zret dX15_isShaped_249 rfl (Or.inr (by decide)) (by omega) (by omega) (⟨by rw [show decide (shF q = 0) = true by (rw [shF, if_neg (by omega), if_neg (by omega), if_pos (by omega)]; (repeat' split) <;> first | rfl | (exfalso; omega))]; rfl, rfl⟩)
  · refine e_tableIn 250 (off := 247) dX15_isShaped_3 (by rw [nI_toInt (by omega)]; omega) (by rw [nI_toInt (by omega)]; omega) (by rcases s3 with s3 | s3 | s3 | s3 <;> rw [s3] <;> decide) rfl ?_
    refine e_iload_n 251 dX15_isShaped_250 rfl rfl ?_
    refine e_iconst 252 (v := (nI 1)) dX15_isShaped_251 rfl (by decide) ?_
    refine e_icmp_ne 259 255 dX15_isShaped_252 rfl rfl (fun c252 => ?_) (fun c252 => ?_)
    · have k252 := j_ne_t (a := q.length) (b := 1) (by omega) (by omega) c252
      refine e_iconst 260 (v := (nI 0)) dX15_isShaped_259 rfl (by decide) ?_
      exact e_zret dX15_isShaped_260 rfl (Or.inl (by decide)) (by omega) (by omega) (⟨by rw [show decide (shF q = 0) = false by (rw [shF, if_neg (by omega), if_neg (by omega), if_neg (by omega), if_pos (by omega)]; (repeat' split) <;> first | rfl | (exfalso; omega))]; rfl, rfl⟩)
    · have k252 := j_ne_f (a := q.length) (b := 1) (by omega) (by omega) c252
      refine e_iconst 256 (v := (nI 1)) dX15_isShaped_255 rfl (by decide) ?_
      refine e_goto 260 dX15_isShaped_256 rfl ?_
      exact e_zret dX15_isShaped_260 rfl (Or.inr (by decide)) (by omega) (by omega) (⟨by rw [show decide (shF q = 0) = true by (rw [shF, if_neg (by omega), if_neg (by omega), if_neg (by omega), if_pos (by omega)]; (repeat' split) <;> first | rfl | (exfalso; omega))]; rfl, rfl⟩)
  · refine e_tableIn 261 (off := 258) dX15_isShaped_3 (by rw [nI_toInt (by omega)]; omega) (by rw [nI_toInt (by omega)]; omega) (by rw [s3]; decide) rfl ?_
    refine e_iload_n 262 dX15_isShaped_261 rfl rfl ?_
    refine e_iconst 263 (v := (nI 3)) dX15_isShaped_262 rfl (by decide) ?_
    refine e_icmp_ge 268 266 dX15_isShaped_263 rfl rfl (fun c263 => ?_) (fun c263 => ?_)
    · have k263 := j_ge_t (a := q.length) (b := 3) (by omega) (by omega) c263
      refine e_aload_n 269 dX15_isShaped_268 rfl rfl ?_
      refine e_iconst 270 (v := (nI 1)) dX15_isShaped_269 rfl (by decide) ?_
      refine u_callS 273 dX15_isShaped_270 rfl cs_X15_85 (u_X15_two hR (k := 1) (by omega) (by omega)) rfl rfl (Nat.le_of_ble_eq_true rfl) (by decide) ⟨by omega, by omega⟩ ?_
      have w270 := wd_lt (k := 1) hq
      refine e_istore_n 274 (ls' := [some (.ref a), some (.int (nI q.length)), some (.int (nI (wd q 1))), none]) dX15_isShaped_273 rfl (by decide) rfl ?_
      refine e_iload_n 275 dX15_isShaped_274 rfl rfl ?_
      refine e_if_eq 315 278 dX15_isShaped_275 rfl rfl (fun c275 => ?_) (fun c275 => ?_)
      · have k275 := j_eq0_t (a := (wd q 1)) (by omega) c275
        refine e_iconst 316 (v := (nI 1)) dX15_isShaped_315 rfl (by decide) ?_
        refine e_goto 320 dX15_isShaped_316 rfl ?_
        exact e_zret dX15_isShaped_320 rfl (Or.inr (by decide)) (by omega) (by omega) (⟨by rw [show decide (shF q = 0) = true by (rw [shF, if_neg (by omega), if_neg (by omega), if_neg (by omega), if_neg (by omega), if_pos (by omega)]; unfold dgF; (repeat' split) <;> first | rfl | (exfalso; omega))]; rfl, rfl⟩)
      · have k275 := j_eq0_f (a := (wd q 1)) (by omega) c275
        refine e_iload_n 279 dX15_isShaped_278 rfl rfl ?_
        refine e_iconst 280 (v := (nI 5)) dX15_isShaped_279 rfl (by decide) ?_
        refine e_icmp_ne 319 283 dX15_isShaped_280 rfl rfl (fun c280 => ?_) (fun c280 => ?_)
        · have k280 := j_ne_t (a := q.length) (b := 5) (by omega) (by omega) c280
          refine e_iconst 320 (v := (nI 0)) dX15_isShaped_319 rfl (by decide) ?_
          exact e_zret dX15_isShaped_320 rfl (Or.inl (by decide)) (by omega) (by omega) (⟨by rw [show decide (shF q = 0) = false by (rw [shF, if_neg (by omega), if_neg (by omega), if_neg (by omega), if_neg (by omega), if_pos (by omega)]; unfold dgF; (repeat' split) <;> first | rfl | (exfalso; omega))]; rfl, rfl⟩)
        · have k280 := j_ne_f (a := q.length) (b := 5) (by omega) (by omega) c280
          refine e_iload_n 284 dX15_isShaped_283 rfl rfl ?_
          refine e_iconst 285 (v := (nI 1)) dX15_isShaped_284 rfl (by decide) ?_
          refine e_icmp_eq 315 288 dX15_isShaped_285 rfl rfl (fun c285 => ?_) (fun c285 => ?_)
          · have k285 := j_eq_t (a := (wd q 1)) (b := 1) (by omega) (by omega) c285
            refine e_iconst 316 (v := (nI 1)) dX15_isShaped_315 rfl (by decide) ?_
            refine e_goto 320 dX15_isShaped_316 rfl ?_
            exact e_zret dX15_isShaped_320 rfl (Or.inr (by decide)) (by omega) (by omega) (⟨by rw [show decide (shF q = 0) = true by (rw [shF, if_neg (by omega), if_neg (by omega), if_neg (by omega), if_neg (by omega), if_pos (by omega)]; unfold dgF; (repeat' split) <;> first | rfl | (exfalso; omega))]; rfl, rfl⟩)
          · have k285 := j_eq_f (a := (wd q 1)) (b := 1) (by omega) (by omega) c285
            refine e_iload_n 289 dX15_isShaped_288 rfl rfl ?_
            refine e_iconst 290 (v := (nI 2)) dX15_isShaped_289 rfl (by decide) ?_
            refine e_icmp_eq 315 293 dX15_isShaped_290 rfl rfl (fun c290 => ?_) (fun c290 => ?_)
            · have k290 := j_eq_t (a := (wd q 1)) (b := 2) (by omega) (by omega) c290
              refine e_iconst 316 (v := (nI 1)) dX15_isShaped_315 rfl (by decide) ?_
              refine e_goto 320 dX15_isShaped_316 rfl ?_
              exact e_zret dX15_isShaped_320 rfl (Or.inr (by decide)) (by omega) (by omega) (⟨by rw [show decide (shF q = 0) = true by (rw [shF, if_neg (by omega), if_neg (by omega), if_neg (by omega), if_neg (by omega), if_pos (by omega)]; unfold dgF; (repeat' split) <;> first | rfl | (exfalso; omega))]; rfl, rfl⟩)
            · have k290 := j_eq_f (a := (wd q 1)) (b := 2) (by omega) (by omega) c290
              refine e_iload_n 294 dX15_isShaped_293 rfl rfl ?_
              refine e_iconst 295 (v := (nI 4)) dX15_isShaped_294 rfl (by decide) ?_
              refine e_icmp_eq 315 298 dX15_isShaped_295 rfl rfl (fun c295 => ?_) (fun c295 => ?_)
              · have k295 := j_eq_t (a := (wd q 1)) (b := 4) (by omega) (by omega) c295
                refine e_iconst 316 (v := (nI 1)) dX15_isShaped_315 rfl (by decide) ?_
                refine e_goto 320 dX15_isShaped_316 rfl ?_
                exact e_zret dX15_isShaped_320 rfl (Or.inr (by decide)) (by omega) (by omega) (⟨by rw [show decide (shF q = 0) = true by (rw [shF, if_neg (by omega), if_neg (by omega), if_neg (by omega), if_neg (by omega), if_pos (by omega)]; unfold dgF; (repeat' split) <;> first | rfl | (exfalso; omega))]; rfl, rfl⟩)
              · have k295 := j_eq_f (a := (wd q 1)) (b := 4) (by omega) (by omega) c295
                refine e_iload_n 299 dX15_isShaped_298 rfl rfl ?_
                refine e_bipush 301 (v := (nI 10)) dX15_isShaped_299 rfl (by decide) ?_
                refine e_bipush 303 (v := (nI 18)) dX15_isShaped_301 rfl (by decide) ?_
                refine u_callS 306 dX15_isShaped_303 rfl cs_X15_81 (u_inN (by omega) (by omega) (by omega)) rfl rfl (Nat.le_of_ble_eq_true rfl) (by decide) ⟨by omega, by omega⟩ ?_
                refine e_if_ne 315 309 dX15_isShaped_306 rfl rfl (fun c306 => ?_) (fun c306 => ?_)
                · have k306 := jin_ne_t c306
                  refine e_iconst 316 (v := (nI 1)) dX15_isShaped_315 rfl (by decide) ?_
                  refine e_goto 320 dX15_isShaped_316 rfl ?_
                  exact e_zret dX15_isShaped_320 rfl (Or.inr (by decide)) (by omega) (by omega) (⟨by rw [show decide (shF q = 0) = true by (rw [shF, if_neg (by omega), if_neg (by omega), if_neg (by omega), if_neg (by omega), if_pos (by omega)]; unfold dgF; (repeat' split) <;> first | rfl | (exfalso; omega))]; rfl, rfl⟩)
                · have k306 := jin_ne_f c306
                  refine e_iload_n 310 dX15_isShaped_309 rfl rfl ?_
                  refine e_bipush 312 (v := (nI 20)) dX15_isShaped_310 rfl (by decide) ?_
                  refine e_icmp_ne 319 315 dX15_isShaped_312 rfl rfl (fun c312 => ?_) (fun c312 => ?_)
                  · have k312 := j_ne_t (a := (wd q 1)) (b := 20) (by omega) (by omega) c312
                    refine e_iconst 320 (v := (nI 0)) dX15_isShaped_319 rfl (by decide) ?_
                    exact e_zret dX15_isShaped_320 rfl (Or.inl (by decide)) (by omega) (by omega) (⟨by rw [show decide (shF q = 0) = false by (rw [shF, if_neg (by omega), if_neg (by omega), if_neg (by omega), if_neg (by omega), if_pos (by omega)]; unfold dgF; (repeat' split) <;> first | rfl | (exfalso; omega))]; rfl, rfl⟩)
                  · have k312 := j_ne_f (a := (wd q 1)) (b := 20) (by omega) (by omega) c312
                    refine e_iconst 316 (v := (nI 1)) dX15_isShaped_315 rfl (by decide) ?_
                    refine e_goto 320 dX15_isShaped_316 rfl ?_
                    exact e_zret dX15_isShaped_320 rfl (Or.inr (by decide)) (by omega) (by omega) (⟨by rw [show decide (shF q = 0) = true by (rw [shF, if_neg (by omega), if_neg (by omega), if_neg (by omega), if_neg (by omega), if_pos (by omega)]; unfold dgF; (repeat' split) <;> first | rfl | (exfalso; omega))]; rfl, rfl⟩)
    · have k263 := j_ge_f (a := q.length) (b := 3) (by omega) (by omega) c263
      refine e_iconst 267 (v := (nI 0)) dX15_isShaped_266 rfl (by decide) ?_
      exact e_zret dX15_isShaped_267 rfl (Or.inl (by decide)) (by omega) (by omega) (⟨by rw [show decide (shF q = 0) = false by (rw [shF, if_neg (by omega), if_neg (by omega), if_neg (by omega), if_neg (by omega), if_pos (by omega)]; unfold dgF; (repeat' split) <;> first | rfl | (exfalso; omega))]; rfl, rfl⟩)
  · refine e_tableIn 694 (off := 691) dX15_isShaped_3 (by rw [nI_toInt (by omega)]; omega) (by rw [nI_toInt (by omega)]; omega) (by rcases s3 with s3 | s3 | s3 | s3 | s3 | s3 | s3 | s3 | s3 | s3 | s3 | s3 | s3 | s3 | s3 | s3 | s3 | s3 | s3 | s3 | s3 | s3 | s3 | s3 <;> rw [s3] <;> decide) rfl ?_
    refine e_iconst 695 (v := (nI 0)) dX15_isShaped_694 rfl (by decide) ?_
    exact e_zret dX15_isShaped_695 rfl (Or.inl (by decide)) (by omega) (by omega) (⟨by rw [show decide (shF q = 0) = false by (rw [shF, if_neg (by omega), if_neg (by omega), if_neg (by omega), if_neg (by omega), if_neg (by omega), if_neg (by omega), if_neg (by omega), if_neg (by omega), if_neg (by omega), if_neg (by omega), if_neg (by omega), if_neg (by omega), if_neg (by omega)]; (repeat' split) <;> first | rfl | (exfalso; omega))]; rfl, rfl⟩)
  · refine e_tableIn 321 (off := 318) dX15_isShaped_3 (by rw [nI_toInt (by omega)]; omega) (by rw [nI_toInt (by omega)]; omega) (by rw [s3]; decide) rfl ?_
    refine e_iload_n 322 dX15_isShaped_321 rfl rfl ?_
    refine e_bipush 324 (v := (nI 6)) dX15_isShaped_322 rfl (by decide) ?_
    refine e_icmp_lt 373 327 dX15_isShaped_324 rfl rfl (fun c324 => ?_) (fun c324 => ?_)
    · have k324 := j_lt_t (a := q.length) (b := 6) (by omega) (by omega) c324
      refine e_iconst 374 (v := (nI 0)) dX15_isShaped_373 rfl (by decide) ?_
      exact e_zret dX15_isShaped_374 rfl (Or.inl (by decide)) (by omega) (by omega) (⟨by rw [show decide (shF q = 0) = false by (rw [shF, if_neg (by omega), if_neg (by omega), if_neg (by omega), if_neg (by omega), if_neg (by omega), if_pos (by omega)]; (repeat' split) <;> first | rfl | (exfalso; omega))]; rfl, rfl⟩)
    · have k324 := j_lt_f (a := q.length) (b := 6) (by omega) (by omega) c324
      refine e_aload_n 328 dX15_isShaped_327 rfl rfl ?_
      refine e_iconst 329 (v := (nI 3)) dX15_isShaped_328 rfl (by decide) ?_
      refine u_callS 332 dX15_isShaped_329 rfl cs_X15_85 (u_X15_two hR (k := 3) (by omega) (by omega)) rfl rfl (Nat.le_of_ble_eq_true rfl) (by decide) ⟨by omega, by omega⟩ ?_
      have w329 := wd_lt (k := 3) hq
      refine e_iconst 333 (v := (nI 1)) dX15_isShaped_332 rfl (by decide) ?_
      refine e_sipush 336 (v := (nI 1968)) dX15_isShaped_333 rfl (by decide) ?_
      refine u_callS 339 dX15_isShaped_336 rfl cs_X15_81 (u_inN (by omega) (by omega) (by omega)) rfl rfl (Nat.le_of_ble_eq_true rfl) (by decide) ⟨by omega, by omega⟩ ?_
      refine e_if_eq 373 342 dX15_isShaped_339 rfl rfl (fun c339 => ?_) (fun c339 => ?_)
      · have k339 := jin_eq_t c339
        refine e_iconst 374 (v := (nI 0)) dX15_isShaped_373 rfl (by decide) ?_
        exact e_zret dX15_isShaped_374 rfl (Or.inl (by decide)) (by omega) (by omega) (⟨by rw [show decide (shF q = 0) = false by (rw [shF, if_neg (by omega), if_neg (by omega), if_neg (by omega), if_neg (by omega), if_neg (by omega), if_pos (by omega)]; (repeat' split) <;> first | rfl | (exfalso; omega))]; rfl, rfl⟩)
      · have k339 := jin_eq_f c339
        refine e_aload_n 343 dX15_isShaped_342 rfl rfl ?_
        refine e_iconst 344 (v := (nI 5)) dX15_isShaped_343 rfl (by decide) ?_
        have b344 := gd_lt (i := 5) hq (by decide)
        refine v_iald 345 hR (k := 5) (x := (q.getD 5 0)) dX15_isShaped_344 rfl (by omega) (by omega) rfl ?_
        refine e_aload_n 346 dX15_isShaped_345 rfl rfl ?_
        refine e_iconst 347 (v := (nI 3)) dX15_isShaped_346 rfl (by decide) ?_
        refine u_callS 350 dX15_isShaped_347 rfl cs_X15_85 (u_X15_two hR (k := 3) (by omega) (by omega)) rfl rfl (Nat.le_of_ble_eq_true rfl) (by decide) ⟨by omega, by omega⟩ ?_
        have w347 := wd_lt (k := 3) hq
        refine e_bipush 352 (v := (nI 7)) dX15_isShaped_350 rfl (by decide) ?_
        refine e_iadd 353 (v := (nI ((wd q 3) + 7))) dX15_isShaped_352 rfl (nI_add (wd q 3) 7) ?_
        refine e_bipush 355 (v := (nI 8)) dX15_isShaped_353 rfl (by decide) ?_
        refine e_idiv 356 (v := (nI (((wd q 3) + 7) / 8))) dX15_isShaped_355 rfl (by decide) (pk_div (by omega) (by decide) (by decide)) ?_
        refine e_icmp_ne 373 359 dX15_isShaped_356 rfl rfl (fun c356 => ?_) (fun c356 => ?_)
        · have k356 := j_ne_t (a := (q.getD 5 0)) (b := (((wd q 3) + 7) / 8)) (by omega) (by omega) c356
          refine e_iconst 374 (v := (nI 0)) dX15_isShaped_373 rfl (by decide) ?_
          exact e_zret dX15_isShaped_374 rfl (Or.inl (by decide)) (by omega) (by omega) (⟨by rw [show decide (shF q = 0) = false by (rw [shF, if_neg (by omega), if_neg (by omega), if_neg (by omega), if_neg (by omega), if_neg (by omega), if_pos (by omega)]; (repeat' split) <;> first | rfl | (exfalso; omega))]; rfl, rfl⟩)
        · have k356 := j_ne_f (a := (q.getD 5 0)) (b := (((wd q 3) + 7) / 8)) (by omega) (by omega) c356
          refine e_iload_n 360 dX15_isShaped_359 rfl rfl ?_
          refine e_bipush 362 (v := (nI 6)) dX15_isShaped_360 rfl (by decide) ?_
          refine e_aload_n 363 dX15_isShaped_362 rfl rfl ?_
          refine e_iconst 364 (v := (nI 5)) dX15_isShaped_363 rfl (by decide) ?_
          have b364 := gd_lt (i := 5) hq (by decide)
          refine v_iald 365 hR (k := 5) (x := (q.getD 5 0)) dX15_isShaped_364 rfl (by omega) (by omega) rfl ?_
          refine e_iadd 366 (v := (nI (6 + (q.getD 5 0)))) dX15_isShaped_365 rfl (nI_add 6 (q.getD 5 0)) ?_
          refine e_icmp_ne 373 369 dX15_isShaped_366 rfl rfl (fun c366 => ?_) (fun c366 => ?_)
          · have k366 := j_ne_t (a := q.length) (b := (6 + (q.getD 5 0))) (by omega) (by omega) c366
            refine e_iconst 374 (v := (nI 0)) dX15_isShaped_373 rfl (by decide) ?_
            exact e_zret dX15_isShaped_374 rfl (Or.inl (by decide)) (by omega) (by omega) (⟨by rw [show decide (shF q = 0) = false by (rw [shF, if_neg (by omega), if_neg (by omega), if_neg (by omega), if_neg (by omega), if_neg (by omega), if_pos (by omega)]; (repeat' split) <;> first | rfl | (exfalso; omega))]; rfl, rfl⟩)
          · have k366 := j_ne_f (a := q.length) (b := (6 + (q.getD 5 0))) (by omega) (by omega) c366
            refine e_iconst 370 (v := (nI 1)) dX15_isShaped_369 rfl (by decide) ?_
            refine e_goto 374 dX15_isShaped_370 rfl ?_
            exact e_zret dX15_isShaped_374 rfl (Or.inr (by decide)) (by omega) (by omega) (⟨by rw [show decide (shF q = 0) = true by (rw [shF, if_neg (by omega), if_neg (by omega), if_neg (by omega), if_neg (by omega), if_neg (by omega), if_pos (by omega)]; (repeat' split) <;> first | rfl | (exfalso; omega))]; rfl, rfl⟩)
  · refine e_tableIn 375 (off := 372) dX15_isShaped_3 (by rw [nI_toInt (by omega)]; omega) (by rw [nI_toInt (by omega)]; omega) (by rw [s3]; decide) rfl ?_
    refine e_iload_n 376 dX15_isShaped_375 rfl rfl ?_
    refine e_bipush 378 (v := (nI 6)) dX15_isShaped_376 rfl (by decide) ?_
    refine e_icmp_lt 422 381 dX15_isShaped_378 rfl rfl (fun c378 => ?_) (fun c378 => ?_)
    · have k378 := j_lt_t (a := q.length) (b := 6) (by omega) (by omega) c378
      refine e_iconst 423 (v := (nI 0)) dX15_isShaped_422 rfl (by decide) ?_
      exact e_zret dX15_isShaped_423 rfl (Or.inl (by decide)) (by omega) (by omega) (⟨by rw [show decide (shF q = 0) = false by (rw [shF, if_neg (by omega), if_neg (by omega), if_neg (by omega), if_neg (by omega), if_neg (by omega), if_neg (by omega), if_pos (by omega)]; (repeat' split) <;> first | rfl | (exfalso; omega))]; rfl, rfl⟩)
    · have k378 := j_lt_f (a := q.length) (b := 6) (by omega) (by omega) c378
      refine e_aload_n 382 dX15_isShaped_381 rfl rfl ?_
      refine e_iconst 383 (v := (nI 3)) dX15_isShaped_382 rfl (by decide) ?_
      refine u_callS 386 dX15_isShaped_383 rfl cs_X15_85 (u_X15_two hR (k := 3) (by omega) (by omega)) rfl rfl (Nat.le_of_ble_eq_true rfl) (by decide) ⟨by omega, by omega⟩ ?_
      have w383 := wd_lt (k := 3) hq
      refine e_iconst 387 (v := (nI 1)) dX15_isShaped_386 rfl (by decide) ?_
      refine e_bipush 389 (v := (nI 123)) dX15_isShaped_387 rfl (by decide) ?_
      refine u_callS 392 dX15_isShaped_389 rfl cs_X15_81 (u_inN (by omega) (by omega) (by omega)) rfl rfl (Nat.le_of_ble_eq_true rfl) (by decide) ⟨by omega, by omega⟩ ?_
      refine e_if_eq 422 395 dX15_isShaped_392 rfl rfl (fun c392 => ?_) (fun c392 => ?_)
      · have k392 := jin_eq_t c392
        refine e_iconst 423 (v := (nI 0)) dX15_isShaped_422 rfl (by decide) ?_
        exact e_zret dX15_isShaped_423 rfl (Or.inl (by decide)) (by omega) (by omega) (⟨by rw [show decide (shF q = 0) = false by (rw [shF, if_neg (by omega), if_neg (by omega), if_neg (by omega), if_neg (by omega), if_neg (by omega), if_neg (by omega), if_pos (by omega)]; (repeat' split) <;> first | rfl | (exfalso; omega))]; rfl, rfl⟩)
      · have k392 := jin_eq_f c392
        refine e_aload_n 396 dX15_isShaped_395 rfl rfl ?_
        refine e_iconst 397 (v := (nI 5)) dX15_isShaped_396 rfl (by decide) ?_
        have b397 := gd_lt (i := 5) hq (by decide)
        refine v_iald 398 hR (k := 5) (x := (q.getD 5 0)) dX15_isShaped_397 rfl (by omega) (by omega) rfl ?_
        refine e_iconst 399 (v := (nI 2)) dX15_isShaped_398 rfl (by decide) ?_
        refine e_aload_n 400 dX15_isShaped_399 rfl rfl ?_
        refine e_iconst 401 (v := (nI 3)) dX15_isShaped_400 rfl (by decide) ?_
        refine u_callS 404 dX15_isShaped_401 rfl cs_X15_85 (u_X15_two hR (k := 3) (by omega) (by omega)) rfl rfl (Nat.le_of_ble_eq_true rfl) (by decide) ⟨by omega, by omega⟩ ?_
        have w401 := wd_lt (k := 3) hq
        refine e_imul 405 (v := (nI (2 * (wd q 3)))) dX15_isShaped_404 rfl (pk_mul 2 (wd q 3)) ?_
        refine e_icmp_ne 422 408 dX15_isShaped_405 rfl rfl (fun c405 => ?_) (fun c405 => ?_)
        · have k405 := j_ne_t (a := (q.getD 5 0)) (b := (2 * (wd q 3))) (by omega) (by omega) c405
          refine e_iconst 423 (v := (nI 0)) dX15_isShaped_422 rfl (by decide) ?_
          exact e_zret dX15_isShaped_423 rfl (Or.inl (by decide)) (by omega) (by omega) (⟨by rw [show decide (shF q = 0) = false by (rw [shF, if_neg (by omega), if_neg (by omega), if_neg (by omega), if_neg (by omega), if_neg (by omega), if_neg (by omega), if_pos (by omega)]; (repeat' split) <;> first | rfl | (exfalso; omega))]; rfl, rfl⟩)
        · have k405 := j_ne_f (a := (q.getD 5 0)) (b := (2 * (wd q 3))) (by omega) (by omega) c405
          refine e_iload_n 409 dX15_isShaped_408 rfl rfl ?_
          refine e_bipush 411 (v := (nI 6)) dX15_isShaped_409 rfl (by decide) ?_
          refine e_aload_n 412 dX15_isShaped_411 rfl rfl ?_
          refine e_iconst 413 (v := (nI 5)) dX15_isShaped_412 rfl (by decide) ?_
          have b413 := gd_lt (i := 5) hq (by decide)
          refine v_iald 414 hR (k := 5) (x := (q.getD 5 0)) dX15_isShaped_413 rfl (by omega) (by omega) rfl ?_
          refine e_iadd 415 (v := (nI (6 + (q.getD 5 0)))) dX15_isShaped_414 rfl (nI_add 6 (q.getD 5 0)) ?_
          refine e_icmp_ne 422 418 dX15_isShaped_415 rfl rfl (fun c415 => ?_) (fun c415 => ?_)
          · have k415 := j_ne_t (a := q.length) (b := (6 + (q.getD 5 0))) (by omega) (by omega) c415
            refine e_iconst 423 (v := (nI 0)) dX15_isShaped_422 rfl (by decide) ?_
            exact e_zret dX15_isShaped_423 rfl (Or.inl (by decide)) (by omega) (by omega) (⟨by rw [show decide (shF q = 0) = false by (rw [shF, if_neg (by omega), if_neg (by omega), if_neg (by omega), if_neg (by omega), if_neg (by omega), if_neg (by omega), if_pos (by omega)]; (repeat' split) <;> first | rfl | (exfalso; omega))]; rfl, rfl⟩)
          · have k415 := j_ne_f (a := q.length) (b := (6 + (q.getD 5 0))) (by omega) (by omega) c415
            refine e_iconst 419 (v := (nI 1)) dX15_isShaped_418 rfl (by decide) ?_
            refine e_goto 423 dX15_isShaped_419 rfl ?_
            exact e_zret dX15_isShaped_423 rfl (Or.inr (by decide)) (by omega) (by omega) (⟨by rw [show decide (shF q = 0) = true by (rw [shF, if_neg (by omega), if_neg (by omega), if_neg (by omega), if_neg (by omega), if_neg (by omega), if_neg (by omega), if_pos (by omega)]; (repeat' split) <;> first | rfl | (exfalso; omega))]; rfl, rfl⟩)
  · refine e_tableIn 424 (off := 421) dX15_isShaped_3 (by rw [nI_toInt (by omega)]; omega) (by rw [nI_toInt (by omega)]; omega) (by rw [s3]; decide) rfl ?_
    refine e_iload_n 425 dX15_isShaped_424 rfl rfl ?_
    refine e_iconst 426 (v := (nI 2)) dX15_isShaped_425 rfl (by decide) ?_
    refine e_icmp_lt 461 429 dX15_isShaped_426 rfl rfl (fun c426 => ?_) (fun c426 => ?_)
    · have k426 := j_lt_t (a := q.length) (b := 2) (by omega) (by omega) c426
      refine e_iconst 462 (v := (nI 0)) dX15_isShaped_461 rfl (by decide) ?_
      exact e_zret dX15_isShaped_462 rfl (Or.inl (by decide)) (by omega) (by omega) (⟨by rw [show decide (shF q = 0) = false by (rw [shF, if_neg (by omega), if_neg (by omega), if_neg (by omega), if_neg (by omega), if_neg (by omega), if_neg (by omega), if_neg (by omega), if_pos (by omega)]; rw [show rdP q = false by (unfold rdP; (try simp only [Bool.and_eq_true, Bool.or_eq_true, Bool.not_eq_true', Bool.and_eq_false_iff, Bool.or_eq_false_iff, Bool.not_eq_false', decide_eq_true_eq, decide_eq_false_iff_not, Bool.false_or, Bool.true_or, Bool.or_false, Bool.or_true, Bool.not_false, Bool.not_true, Bool.true_and, Bool.false_and, Bool.and_true, Bool.and_false, reduceCtorEq]) <;> (try omega))]; rfl)]; rfl, rfl⟩)
    · have k426 := j_lt_f (a := q.length) (b := 2) (by omega) (by omega) c426
      refine e_aload_n 430 dX15_isShaped_429 rfl rfl ?_
      refine e_iconst 431 (v := (nI 1)) dX15_isShaped_430 rfl (by decide) ?_
      have b431 := gd_lt (i := 1) hq (by decide)
      refine v_iald 432 hR (k := 1) (x := (q.getD 1 0)) dX15_isShaped_431 rfl (by omega) (by omega) rfl ?_
      refine e_bipush 434 (v := (nI 7)) dX15_isShaped_432 rfl (by decide) ?_
      refine e_sipush 437 (v := (nI 245)) dX15_isShaped_434 rfl (by decide) ?_
      refine u_callS 440 dX15_isShaped_437 rfl cs_X15_81 (u_inN (by omega) (by omega) (by omega)) rfl rfl (Nat.le_of_ble_eq_true rfl) (by decide) ⟨by omega, by omega⟩ ?_
      refine e_if_eq 461 443 dX15_isShaped_440 rfl rfl (fun c440 => ?_) (fun c440 => ?_)
      · have k440 := jin_eq_t c440
        refine e_iconst 462 (v := (nI 0)) dX15_isShaped_461 rfl (by decide) ?_
        exact e_zret dX15_isShaped_462 rfl (Or.inl (by decide)) (by omega) (by omega) (⟨by rw [show decide (shF q = 0) = false by (rw [shF, if_neg (by omega), if_neg (by omega), if_neg (by omega), if_neg (by omega), if_neg (by omega), if_neg (by omega), if_neg (by omega), if_pos (by omega)]; rw [show rdP q = false by (unfold rdP; (try simp only [Bool.and_eq_true, Bool.or_eq_true, Bool.not_eq_true', Bool.and_eq_false_iff, Bool.or_eq_false_iff, Bool.not_eq_false', decide_eq_true_eq, decide_eq_false_iff_not, Bool.false_or, Bool.true_or, Bool.or_false, Bool.or_true, Bool.not_false, Bool.not_true, Bool.true_and, Bool.false_and, Bool.and_true, Bool.and_false, reduceCtorEq]) <;> (try omega))]; rfl)]; rfl, rfl⟩)
      · have k440 := jin_eq_f c440
        refine e_aload_n 444 dX15_isShaped_443 rfl rfl ?_
        refine e_iconst 445 (v := (nI 1)) dX15_isShaped_444 rfl (by decide) ?_
        have b445 := gd_lt (i := 1) hq (by decide)
        refine v_iald 446 hR (k := 1) (x := (q.getD 1 0)) dX15_isShaped_445 rfl (by omega) (by omega) rfl ?_
        refine e_bipush 448 (v := (nI 7)) dX15_isShaped_446 rfl (by decide) ?_
        refine e_irem 449 (v := (nI ((q.getD 1 0) % 7))) dX15_isShaped_448 rfl (by decide) (pk_rem (by omega) (by decide) (by decide)) ?_
        refine e_if_ne 461 452 dX15_isShaped_449 rfl rfl (fun c449 => ?_) (fun c449 => ?_)
        · have k449 := j_ne0_t (a := ((q.getD 1 0) % 7)) (by omega) c449
          refine e_iconst 462 (v := (nI 0)) dX15_isShaped_461 rfl (by decide) ?_
          exact e_zret dX15_isShaped_462 rfl (Or.inl (by decide)) (by omega) (by omega) (⟨by rw [show decide (shF q = 0) = false by (rw [shF, if_neg (by omega), if_neg (by omega), if_neg (by omega), if_neg (by omega), if_neg (by omega), if_neg (by omega), if_neg (by omega), if_pos (by omega)]; rw [show rdP q = false by (unfold rdP; (try simp only [Bool.and_eq_true, Bool.or_eq_true, Bool.not_eq_true', Bool.and_eq_false_iff, Bool.or_eq_false_iff, Bool.not_eq_false', decide_eq_true_eq, decide_eq_false_iff_not, Bool.false_or, Bool.true_or, Bool.or_false, Bool.or_true, Bool.not_false, Bool.not_true, Bool.true_and, Bool.false_and, Bool.and_true, Bool.and_false, reduceCtorEq]) <;> (try omega))]; rfl)]; rfl, rfl⟩)
        · have k449 := j_ne0_f (a := ((q.getD 1 0) % 7)) (by omega) c449
          refine e_iload_n 453 dX15_isShaped_452 rfl rfl ?_
          refine e_iconst 454 (v := (nI 2)) dX15_isShaped_453 rfl (by decide) ?_
          refine e_aload_n 455 dX15_isShaped_454 rfl rfl ?_
          refine e_iconst 456 (v := (nI 1)) dX15_isShaped_455 rfl (by decide) ?_
          have b456 := gd_lt (i := 1) hq (by decide)
          refine v_iald 457 hR (k := 1) (x := (q.getD 1 0)) dX15_isShaped_456 rfl (by omega) (by omega) rfl ?_
          refine e_iadd 458 (v := (nI (2 + (q.getD 1 0)))) dX15_isShaped_457 rfl (nI_add 2 (q.getD 1 0)) ?_
          refine e_icmp_eq 463 461 dX15_isShaped_458 rfl rfl (fun c458 => ?_) (fun c458 => ?_)
          · have k458 := j_eq_t (a := q.length) (b := (2 + (q.getD 1 0))) (by omega) (by omega) c458
            refine e_iconst 464 (v := (nI 2)) dX15_isShaped_463 rfl (by decide) ?_
            refine e_istore_n 465 (ls' := [some (.ref a), some (.int (nI q.length)), some (.int (nI 2)), none]) dX15_isShaped_464 rfl (by decide) rfl ?_
            refine e_iconst 466 (v := (nI 2)) dX15_isShaped_465 rfl (by decide) ?_
            refine e_istore_n 467 (ls' := [some (.ref a), some (.int (nI q.length)), some (.int (nI 2)), some (.int (nI 2))]) dX15_isShaped_466 rfl (by decide) rfl ?_
            refine e_wk [some (.ref a), some (.int (nI q.length)), some (.int (nI (rdS q 0))), some (.int (nI (2 + 7 * 0)))] ⟨rfl, rfl, rfl, rfl, trivial⟩ ?_
            exact ul_shaped20 hR hqn hq h1 (by omega) (by omega) (by omega) (by omega) (q.length + 1) 0 (by omega) (by omega)
          · have k458 := j_eq_f (a := q.length) (b := (2 + (q.getD 1 0))) (by omega) (by omega) c458
            refine e_iconst 462 (v := (nI 0)) dX15_isShaped_461 rfl (by decide) ?_
            exact e_zret dX15_isShaped_462 rfl (Or.inl (by decide)) (by omega) (by omega) (⟨by rw [show decide (shF q = 0) = false by (rw [shF, if_neg (by omega), if_neg (by omega), if_neg (by omega), if_neg (by omega), if_neg (by omega), if_neg (by omega), if_neg (by omega), if_pos (by omega)]; rw [show rdP q = false by (unfold rdP; (try simp only [Bool.and_eq_true, Bool.or_eq_true, Bool.not_eq_true', Bool.and_eq_false_iff, Bool.or_eq_false_iff, Bool.not_eq_false', decide_eq_true_eq, decide_eq_false_iff_not, Bool.false_or, Bool.true_or, Bool.or_false, Bool.or_true, Bool.not_false, Bool.not_true, Bool.true_and, Bool.false_and, Bool.and_true, Bool.and_false, reduceCtorEq]) <;> (try omega))]; rfl)]; rfl, rfl⟩)
  · refine e_tableIn 505 (off := 502) dX15_isShaped_3 (by rw [nI_toInt (by omega)]; omega) (by rw [nI_toInt (by omega)]; omega) (by rw [s3]; decide) rfl ?_
    refine e_iload_n 506 dX15_isShaped_505 rfl rfl ?_
    refine e_iconst 507 (v := (nI 2)) dX15_isShaped_506 rfl (by decide) ?_
    refine e_icmp_lt 533 510 dX15_isShaped_507 rfl rfl (fun c507 => ?_) (fun c507 => ?_)
    · have k507 := j_lt_t (a := q.length) (b := 2) (by omega) (by omega) c507
      refine e_iconst 534 (v := (nI 0)) dX15_isShaped_533 rfl (by decide) ?_
      exact e_zret dX15_isShaped_534 rfl (Or.inl (by decide)) (by omega) (by omega) (⟨by rw [show decide (shF q = 0) = false by (rw [shF, if_neg (by omega), if_neg (by omega), if_neg (by omega), if_neg (by omega), if_neg (by omega), if_neg (by omega), if_neg (by omega), if_neg (by omega), if_pos (by omega)]; rw [show wrP q = false by (unfold wrP; (try simp only [Bool.and_eq_true, Bool.or_eq_true, Bool.not_eq_true', Bool.and_eq_false_iff, Bool.or_eq_false_iff, Bool.not_eq_false', decide_eq_true_eq, decide_eq_false_iff_not, Bool.false_or, Bool.true_or, Bool.or_false, Bool.or_true, Bool.not_false, Bool.not_true, Bool.true_and, Bool.false_and, Bool.and_true, Bool.and_false, reduceCtorEq]) <;> (try omega))]; rfl)]; rfl, rfl⟩)
    · have k507 := j_lt_f (a := q.length) (b := 2) (by omega) (by omega) c507
      refine e_aload_n 511 dX15_isShaped_510 rfl rfl ?_
      refine e_iconst 512 (v := (nI 1)) dX15_isShaped_511 rfl (by decide) ?_
      have b512 := gd_lt (i := 1) hq (by decide)
      refine v_iald 513 hR (k := 1) (x := (q.getD 1 0)) dX15_isShaped_512 rfl (by omega) (by omega) rfl ?_
      refine e_bipush 515 (v := (nI 9)) dX15_isShaped_513 rfl (by decide) ?_
      refine e_sipush 518 (v := (nI 251)) dX15_isShaped_515 rfl (by decide) ?_
      refine u_callS 521 dX15_isShaped_518 rfl cs_X15_81 (u_inN (by omega) (by omega) (by omega)) rfl rfl (Nat.le_of_ble_eq_true rfl) (by decide) ⟨by omega, by omega⟩ ?_
      refine e_if_eq 533 524 dX15_isShaped_521 rfl rfl (fun c521 => ?_) (fun c521 => ?_)
      · have k521 := jin_eq_t c521
        refine e_iconst 534 (v := (nI 0)) dX15_isShaped_533 rfl (by decide) ?_
        exact e_zret dX15_isShaped_534 rfl (Or.inl (by decide)) (by omega) (by omega) (⟨by rw [show decide (shF q = 0) = false by (rw [shF, if_neg (by omega), if_neg (by omega), if_neg (by omega), if_neg (by omega), if_neg (by omega), if_neg (by omega), if_neg (by omega), if_neg (by omega), if_pos (by omega)]; rw [show wrP q = false by (unfold wrP; (try simp only [Bool.and_eq_true, Bool.or_eq_true, Bool.not_eq_true', Bool.and_eq_false_iff, Bool.or_eq_false_iff, Bool.not_eq_false', decide_eq_true_eq, decide_eq_false_iff_not, Bool.false_or, Bool.true_or, Bool.or_false, Bool.or_true, Bool.not_false, Bool.not_true, Bool.true_and, Bool.false_and, Bool.and_true, Bool.and_false, reduceCtorEq]) <;> (try omega))]; rfl)]; rfl, rfl⟩)
      · have k521 := jin_eq_f c521
        refine e_iload_n 525 dX15_isShaped_524 rfl rfl ?_
        refine e_iconst 526 (v := (nI 2)) dX15_isShaped_525 rfl (by decide) ?_
        refine e_aload_n 527 dX15_isShaped_526 rfl rfl ?_
        refine e_iconst 528 (v := (nI 1)) dX15_isShaped_527 rfl (by decide) ?_
        have b528 := gd_lt (i := 1) hq (by decide)
        refine v_iald 529 hR (k := 1) (x := (q.getD 1 0)) dX15_isShaped_528 rfl (by omega) (by omega) rfl ?_
        refine e_iadd 530 (v := (nI (2 + (q.getD 1 0)))) dX15_isShaped_529 rfl (nI_add 2 (q.getD 1 0)) ?_
        refine e_icmp_eq 535 533 dX15_isShaped_530 rfl rfl (fun c530 => ?_) (fun c530 => ?_)
        · have k530 := j_eq_t (a := q.length) (b := (2 + (q.getD 1 0))) (by omega) (by omega) c530
          refine e_iconst 536 (v := (nI 2)) dX15_isShaped_535 rfl (by decide) ?_
          refine e_istore_n 537 (ls' := [some (.ref a), some (.int (nI q.length)), some (.int (nI 2)), none]) dX15_isShaped_536 rfl (by decide) rfl ?_
          exact ul_shaped21 hR hqn hq h1 (by omega) (by omega) (by omega) 38 0 36 2 (by omega) (by omega) (by omega) (by omega) rfl
        · have k530 := j_eq_f (a := q.length) (b := (2 + (q.getD 1 0))) (by omega) (by omega) c530
          refine e_iconst 534 (v := (nI 0)) dX15_isShaped_533 rfl (by decide) ?_
          exact e_zret dX15_isShaped_534 rfl (Or.inl (by decide)) (by omega) (by omega) (⟨by rw [show decide (shF q = 0) = false by (rw [shF, if_neg (by omega), if_neg (by omega), if_neg (by omega), if_neg (by omega), if_neg (by omega), if_neg (by omega), if_neg (by omega), if_neg (by omega), if_pos (by omega)]; rw [show wrP q = false by (unfold wrP; (try simp only [Bool.and_eq_true, Bool.or_eq_true, Bool.not_eq_true', Bool.and_eq_false_iff, Bool.or_eq_false_iff, Bool.not_eq_false', decide_eq_true_eq, decide_eq_false_iff_not, Bool.false_or, Bool.true_or, Bool.or_false, Bool.or_true, Bool.not_false, Bool.not_true, Bool.true_and, Bool.false_and, Bool.and_true, Bool.and_false, reduceCtorEq]) <;> (try omega))]; rfl)]; rfl, rfl⟩)
  · refine e_tableIn 574 (off := 571) dX15_isShaped_3 (by rw [nI_toInt (by omega)]; omega) (by rw [nI_toInt (by omega)]; omega) (by rw [s3]; decide) rfl ?_
    refine e_iload_n 575 dX15_isShaped_574 rfl rfl ?_
    refine e_bipush 577 (v := (nI 7)) dX15_isShaped_575 rfl (by decide) ?_
    refine e_icmp_ne 584 580 dX15_isShaped_577 rfl rfl (fun c577 => ?_) (fun c577 => ?_)
    · have k577 := j_ne_t (a := q.length) (b := 7) (by omega) (by omega) c577
      refine e_iconst 585 (v := (nI 0)) dX15_isShaped_584 rfl (by decide) ?_
      exact e_zret dX15_isShaped_585 rfl (Or.inl (by decide)) (by omega) (by omega) (⟨by rw [show decide (shF q = 0) = false by (rw [shF, if_neg (by omega), if_neg (by omega), if_neg (by omega), if_neg (by omega), if_neg (by omega), if_neg (by omega), if_neg (by omega), if_neg (by omega), if_neg (by omega), if_pos (by omega)]; (repeat' split) <;> first | rfl | (exfalso; omega))]; rfl, rfl⟩)
    · have k577 := j_ne_f (a := q.length) (b := 7) (by omega) (by omega) c577
      refine e_iconst 581 (v := (nI 1)) dX15_isShaped_580 rfl (by decide) ?_
      refine e_goto 585 dX15_isShaped_581 rfl ?_
      exact e_zret dX15_isShaped_585 rfl (Or.inr (by decide)) (by omega) (by omega) (⟨by rw [show decide (shF q = 0) = true by (rw [shF, if_neg (by omega), if_neg (by omega), if_neg (by omega), if_neg (by omega), if_neg (by omega), if_neg (by omega), if_neg (by omega), if_neg (by omega), if_neg (by omega), if_pos (by omega)]; (repeat' split) <;> first | rfl | (exfalso; omega))]; rfl, rfl⟩)
  · refine e_tableIn 586 (off := 583) dX15_isShaped_3 (by rw [nI_toInt (by omega)]; omega) (by rw [nI_toInt (by omega)]; omega) (by rw [s3]; decide) rfl ?_
    refine e_iload_n 587 dX15_isShaped_586 rfl rfl ?_
    refine e_bipush 589 (v := (nI 10)) dX15_isShaped_587 rfl (by decide) ?_
    refine e_icmp_lt 651 592 dX15_isShaped_589 rfl rfl (fun c589 => ?_) (fun c589 => ?_)
    · have k589 := j_lt_t (a := q.length) (b := 10) (by omega) (by omega) c589
      refine e_iconst 652 (v := (nI 0)) dX15_isShaped_651 rfl (by decide) ?_
      exact e_zret dX15_isShaped_652 rfl (Or.inl (by decide)) (by omega) (by omega) (⟨by rw [show decide (shF q = 0) = false by (rw [shF, if_neg (by omega), if_neg (by omega), if_neg (by omega), if_neg (by omega), if_neg (by omega), if_neg (by omega), if_neg (by omega), if_neg (by omega), if_neg (by omega), if_neg (by omega), if_pos (by omega)]; (repeat' split) <;> first | rfl | (exfalso; omega))]; rfl, rfl⟩)
    · have k589 := j_lt_f (a := q.length) (b := 10) (by omega) (by omega) c589
      refine e_aload_n 593 dX15_isShaped_592 rfl rfl ?_
      refine e_iconst 594 (v := (nI 3)) dX15_isShaped_593 rfl (by decide) ?_
      refine u_callS 597 dX15_isShaped_594 rfl cs_X15_85 (u_X15_two hR (k := 3) (by omega) (by omega)) rfl rfl (Nat.le_of_ble_eq_true rfl) (by decide) ⟨by omega, by omega⟩ ?_
      have w594 := wd_lt (k := 3) hq
      refine e_iconst 598 (v := (nI 1)) dX15_isShaped_597 rfl (by decide) ?_
      refine e_bipush 600 (v := (nI 125)) dX15_isShaped_598 rfl (by decide) ?_
      refine u_callS 603 dX15_isShaped_600 rfl cs_X15_81 (u_inN (by omega) (by omega) (by omega)) rfl rfl (Nat.le_of_ble_eq_true rfl) (by decide) ⟨by omega, by omega⟩ ?_
      refine e_if_eq 651 606 dX15_isShaped_603 rfl rfl (fun c603 => ?_) (fun c603 => ?_)
      · have k603 := jin_eq_t c603
        refine e_iconst 652 (v := (nI 0)) dX15_isShaped_651 rfl (by decide) ?_
        exact e_zret dX15_isShaped_652 rfl (Or.inl (by decide)) (by omega) (by omega) (⟨by rw [show decide (shF q = 0) = false by (rw [shF, if_neg (by omega), if_neg (by omega), if_neg (by omega), if_neg (by omega), if_neg (by omega), if_neg (by omega), if_neg (by omega), if_neg (by omega), if_neg (by omega), if_neg (by omega), if_pos (by omega)]; (repeat' split) <;> first | rfl | (exfalso; omega))]; rfl, rfl⟩)
      · have k603 := jin_eq_f c603
        refine e_aload_n 607 dX15_isShaped_606 rfl rfl ?_
        refine e_bipush 609 (v := (nI 7)) dX15_isShaped_607 rfl (by decide) ?_
        refine u_callS 612 dX15_isShaped_609 rfl cs_X15_85 (u_X15_two hR (k := 7) (by omega) (by omega)) rfl rfl (Nat.le_of_ble_eq_true rfl) (by decide) ⟨by omega, by omega⟩ ?_
        have w609 := wd_lt (k := 7) hq
        refine e_iconst 613 (v := (nI 1)) dX15_isShaped_612 rfl (by decide) ?_
        refine e_bipush 615 (v := (nI 121)) dX15_isShaped_613 rfl (by decide) ?_
        refine u_callS 618 dX15_isShaped_615 rfl cs_X15_81 (u_inN (by omega) (by omega) (by omega)) rfl rfl (Nat.le_of_ble_eq_true rfl) (by decide) ⟨by omega, by omega⟩ ?_
        refine e_if_eq 651 621 dX15_isShaped_618 rfl rfl (fun c618 => ?_) (fun c618 => ?_)
        · have k618 := jin_eq_t c618
          refine e_iconst 652 (v := (nI 0)) dX15_isShaped_651 rfl (by decide) ?_
          exact e_zret dX15_isShaped_652 rfl (Or.inl (by decide)) (by omega) (by omega) (⟨by rw [show decide (shF q = 0) = false by (rw [shF, if_neg (by omega), if_neg (by omega), if_neg (by omega), if_neg (by omega), if_neg (by omega), if_neg (by omega), if_neg (by omega), if_neg (by omega), if_neg (by omega), if_neg (by omega), if_pos (by omega)]; (repeat' split) <;> first | rfl | (exfalso; omega))]; rfl, rfl⟩)
        · have k618 := jin_eq_f c618
          refine e_aload_n 622 dX15_isShaped_621 rfl rfl ?_
          refine e_bipush 624 (v := (nI 9)) dX15_isShaped_622 rfl (by decide) ?_
          have b624 := gd_lt (i := 9) hq (by decide)
          refine v_iald 625 hR (k := 9) (x := (q.getD 9 0)) dX15_isShaped_624 rfl (by omega) (by omega) rfl ?_
          refine e_iconst 626 (v := (nI 2)) dX15_isShaped_625 rfl (by decide) ?_
          refine e_aload_n 627 dX15_isShaped_626 rfl rfl ?_
          refine e_bipush 629 (v := (nI 7)) dX15_isShaped_627 rfl (by decide) ?_
          refine u_callS 632 dX15_isShaped_629 rfl cs_X15_85 (u_X15_two hR (k := 7) (by omega) (by omega)) rfl rfl (Nat.le_of_ble_eq_true rfl) (by decide) ⟨by omega, by omega⟩ ?_
          have w629 := wd_lt (k := 7) hq
          refine e_imul 633 (v := (nI (2 * (wd q 7)))) dX15_isShaped_632 rfl (pk_mul 2 (wd q 7)) ?_
          refine e_icmp_ne 651 636 dX15_isShaped_633 rfl rfl (fun c633 => ?_) (fun c633 => ?_)
          · have k633 := j_ne_t (a := (q.getD 9 0)) (b := (2 * (wd q 7))) (by omega) (by omega) c633
            refine e_iconst 652 (v := (nI 0)) dX15_isShaped_651 rfl (by decide) ?_
            exact e_zret dX15_isShaped_652 rfl (Or.inl (by decide)) (by omega) (by omega) (⟨by rw [show decide (shF q = 0) = false by (rw [shF, if_neg (by omega), if_neg (by omega), if_neg (by omega), if_neg (by omega), if_neg (by omega), if_neg (by omega), if_neg (by omega), if_neg (by omega), if_neg (by omega), if_neg (by omega), if_pos (by omega)]; (repeat' split) <;> first | rfl | (exfalso; omega))]; rfl, rfl⟩)
          · have k633 := j_ne_f (a := (q.getD 9 0)) (b := (2 * (wd q 7))) (by omega) (by omega) c633
            refine e_iload_n 637 dX15_isShaped_636 rfl rfl ?_
            refine e_bipush 639 (v := (nI 10)) dX15_isShaped_637 rfl (by decide) ?_
            refine e_aload_n 640 dX15_isShaped_639 rfl rfl ?_
            refine e_bipush 642 (v := (nI 9)) dX15_isShaped_640 rfl (by decide) ?_
            have b642 := gd_lt (i := 9) hq (by decide)
            refine v_iald 643 hR (k := 9) (x := (q.getD 9 0)) dX15_isShaped_642 rfl (by omega) (by omega) rfl ?_
            refine e_iadd 644 (v := (nI (10 + (q.getD 9 0)))) dX15_isShaped_643 rfl (nI_add 10 (q.getD 9 0)) ?_
            refine e_icmp_ne 651 647 dX15_isShaped_644 rfl rfl (fun c644 => ?_) (fun c644 => ?_)
            · have k644 := j_ne_t (a := q.length) (b := (10 + (q.getD 9 0))) (by omega) (by omega) c644
              refine e_iconst 652 (v := (nI 0)) dX15_isShaped_651 rfl (by decide) ?_
              exact e_zret dX15_isShaped_652 rfl (Or.inl (by decide)) (by omega) (by omega) (⟨by rw [show decide (shF q = 0) = false by (rw [shF, if_neg (by omega), if_neg (by omega), if_neg (by omega), if_neg (by omega), if_neg (by omega), if_neg (by omega), if_neg (by omega), if_neg (by omega), if_neg (by omega), if_neg (by omega), if_pos (by omega)]; (repeat' split) <;> first | rfl | (exfalso; omega))]; rfl, rfl⟩)
            · have k644 := j_ne_f (a := q.length) (b := (10 + (q.getD 9 0))) (by omega) (by omega) c644
              refine e_iconst 648 (v := (nI 1)) dX15_isShaped_647 rfl (by decide) ?_
              refine e_goto 652 dX15_isShaped_648 rfl ?_
              exact e_zret dX15_isShaped_652 rfl (Or.inr (by decide)) (by omega) (by omega) (⟨by rw [show decide (shF q = 0) = true by (rw [shF, if_neg (by omega), if_neg (by omega), if_neg (by omega), if_neg (by omega), if_neg (by omega), if_neg (by omega), if_neg (by omega), if_neg (by omega), if_neg (by omega), if_neg (by omega), if_pos (by omega)]; (repeat' split) <;> first | rfl | (exfalso; omega))]; rfl, rfl⟩)
  · refine e_tableIn 653 (off := 650) dX15_isShaped_3 (by rw [nI_toInt (by omega)]; omega) (by rw [nI_toInt (by omega)]; omega) (by rw [s3]; decide) rfl ?_
    refine e_iload_n 654 dX15_isShaped_653 rfl rfl ?_
    refine e_iconst 655 (v := (nI 3)) dX15_isShaped_654 rfl (by decide) ?_
    refine e_icmp_ne 662 658 dX15_isShaped_655 rfl rfl (fun c655 => ?_) (fun c655 => ?_)
    · have k655 := j_ne_t (a := q.length) (b := 3) (by omega) (by omega) c655
      refine e_iconst 663 (v := (nI 0)) dX15_isShaped_662 rfl (by decide) ?_
      exact e_zret dX15_isShaped_663 rfl (Or.inl (by decide)) (by omega) (by omega) (⟨by rw [show decide (shF q = 0) = false by (rw [shF, if_neg (by omega), if_neg (by omega), if_neg (by omega), if_neg (by omega), if_neg (by omega), if_neg (by omega), if_neg (by omega), if_neg (by omega), if_neg (by omega), if_neg (by omega), if_neg (by omega), if_pos (by omega)]; (repeat' split) <;> first | rfl | (exfalso; omega))]; rfl, rfl⟩)
    · have k655 := j_ne_f (a := q.length) (b := 3) (by omega) (by omega) c655
      refine e_iconst 659 (v := (nI 1)) dX15_isShaped_658 rfl (by decide) ?_
      refine e_goto 663 dX15_isShaped_659 rfl ?_
      exact e_zret dX15_isShaped_663 rfl (Or.inr (by decide)) (by omega) (by omega) (⟨by rw [show decide (shF q = 0) = true by (rw [shF, if_neg (by omega), if_neg (by omega), if_neg (by omega), if_neg (by omega), if_neg (by omega), if_neg (by omega), if_neg (by omega), if_neg (by omega), if_neg (by omega), if_neg (by omega), if_neg (by omega), if_pos (by omega)]; (repeat' split) <;> first | rfl | (exfalso; omega))]; rfl, rfl⟩)
  · refine e_tableIn 664 (off := 661) dX15_isShaped_3 (by rw [nI_toInt (by omega)]; omega) (by rw [nI_toInt (by omega)]; omega) (by rw [s3]; decide) rfl ?_
    refine e_iload_n 665 dX15_isShaped_664 rfl rfl ?_
    refine e_iconst 666 (v := (nI 4)) dX15_isShaped_665 rfl (by decide) ?_
    refine e_icmp_ne 692 669 dX15_isShaped_666 rfl rfl (fun c666 => ?_) (fun c666 => ?_)
    · have k666 := j_ne_t (a := q.length) (b := 4) (by omega) (by omega) c666
      refine e_iconst 693 (v := (nI 0)) dX15_isShaped_692 rfl (by decide) ?_
      exact e_zret dX15_isShaped_693 rfl (Or.inl (by decide)) (by omega) (by omega) (⟨by rw [show decide (shF q = 0) = false by (rw [shF, if_neg (by omega), if_neg (by omega), if_neg (by omega), if_neg (by omega), if_neg (by omega), if_neg (by omega), if_neg (by omega), if_neg (by omega), if_neg (by omega), if_neg (by omega), if_neg (by omega), if_neg (by omega), if_pos (by omega)]; unfold txF; (repeat' split) <;> first | rfl | (exfalso; omega))]; rfl, rfl⟩)
    · have k666 := j_ne_f (a := q.length) (b := 4) (by omega) (by omega) c666
      refine e_aload_n 670 dX15_isShaped_669 rfl rfl ?_
      refine e_iconst 671 (v := (nI 1)) dX15_isShaped_670 rfl (by decide) ?_
      have b671 := gd_lt (i := 1) hq (by decide)
      refine v_iald 672 hR (k := 1) (x := (q.getD 1 0)) dX15_isShaped_671 rfl (by omega) (by omega) rfl ?_
      refine e_bipush 674 (v := (nI 14)) dX15_isShaped_672 rfl (by decide) ?_
      refine e_icmp_ne 692 677 dX15_isShaped_674 rfl rfl (fun c674 => ?_) (fun c674 => ?_)
      · have k674 := j_ne_t (a := (q.getD 1 0)) (b := 14) (by omega) (by omega) c674
        refine e_iconst 693 (v := (nI 0)) dX15_isShaped_692 rfl (by decide) ?_
        exact e_zret dX15_isShaped_693 rfl (Or.inl (by decide)) (by omega) (by omega) (⟨by rw [show decide (shF q = 0) = false by (rw [shF, if_neg (by omega), if_neg (by omega), if_neg (by omega), if_neg (by omega), if_neg (by omega), if_neg (by omega), if_neg (by omega), if_neg (by omega), if_neg (by omega), if_neg (by omega), if_neg (by omega), if_neg (by omega), if_pos (by omega)]; unfold txF; (repeat' split) <;> first | rfl | (exfalso; omega))]; rfl, rfl⟩)
      · have k674 := j_ne_f (a := (q.getD 1 0)) (b := 14) (by omega) (by omega) c674
        refine e_aload_n 678 dX15_isShaped_677 rfl rfl ?_
        refine e_iconst 679 (v := (nI 2)) dX15_isShaped_678 rfl (by decide) ?_
        have b679 := gd_lt (i := 2) hq (by decide)
        refine v_iald 680 hR (k := 2) (x := (q.getD 2 0)) dX15_isShaped_679 rfl (by omega) (by omega) rfl ?_
        refine e_iconst 681 (v := (nI 1)) dX15_isShaped_680 rfl (by decide) ?_
        refine e_iconst 682 (v := (nI 4)) dX15_isShaped_681 rfl (by decide) ?_
        refine u_callS 685 dX15_isShaped_682 rfl cs_X15_81 (u_inN (by omega) (by omega) (by omega)) rfl rfl (Nat.le_of_ble_eq_true rfl) (by decide) ⟨by omega, by omega⟩ ?_
        refine e_if_eq 692 688 dX15_isShaped_685 rfl rfl (fun c685 => ?_) (fun c685 => ?_)
        · have k685 := jin_eq_t c685
          refine e_iconst 693 (v := (nI 0)) dX15_isShaped_692 rfl (by decide) ?_
          exact e_zret dX15_isShaped_693 rfl (Or.inl (by decide)) (by omega) (by omega) (⟨by rw [show decide (shF q = 0) = false by (rw [shF, if_neg (by omega), if_neg (by omega), if_neg (by omega), if_neg (by omega), if_neg (by omega), if_neg (by omega), if_neg (by omega), if_neg (by omega), if_neg (by omega), if_neg (by omega), if_neg (by omega), if_neg (by omega), if_pos (by omega)]; unfold txF; (repeat' split) <;> first | rfl | (exfalso; omega))]; rfl, rfl⟩)
        · have k685 := jin_eq_f c685
          refine e_iconst 689 (v := (nI 1)) dX15_isShaped_688 rfl (by decide) ?_
          refine e_goto 693 dX15_isShaped_689 rfl ?_
          exact e_zret dX15_isShaped_693 rfl (Or.inr (by decide)) (by omega) (by omega) (⟨by rw [show decide (shF q = 0) = true by (rw [shF, if_neg (by omega), if_neg (by omega), if_neg (by omega), if_neg (by omega), if_neg (by omega), if_neg (by omega), if_neg (by omega), if_neg (by omega), if_neg (by omega), if_neg (by omega), if_neg (by omega), if_neg (by omega), if_pos (by omega)]; unfold txF; (repeat' split) <;> first | rfl | (exfalso; omega))]; rfl, rfl⟩)
