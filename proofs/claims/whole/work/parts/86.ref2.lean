/-! the reference: what a station hears; as an object of its own (12), or as a device (10), whose other fields are xs -/
set_option maxRecDepth 20000 in
set_option maxHeartbeats 2000000 in
theorem k_X14_hears {s a q : Nat} {r : List Nat} {sp ov : Bool} {b : Nat} (hq : q < 1000000) : CA mX14_hears [.ref s, .int (nI b)] [pt s (.inr (12, [.ref a, .int (nI r.length), .int (nI q), .int (bI sp), .int (bI ov)])), iar a 256 r] (fun x K => x = none ∧ K = [pt s (.inr (12, [.ref a, .int (nI (hrR r b).length), .int (nI 0), .int (bI (hrS r q sp)), .int (bI (hrO r ov))])), iar a 256 (hrR r b)]) 0 0 0 0 := by
  refine CA.mk 0 (ls := [some (.ref s), some (.int (nI b))]) rfl rfl (Nat.le_of_ble_eq_true rfl) rfl (fun h hL => ?_)
  have hlen := iar_le _ 1 hL rfl
  refine e_aload_n 1 dX14_hears_0 rfl rfl ?_
  refine e_get 4 dX14_hears_1 rfl fl_X14_17_12 (stars_at _ 0 hL rfl) rfl ?_
  refine e_if_le 21 7 dX14_hears_4 rfl rfl (fun c4 => ?_) (fun c4 => ?_)
  · have k4 := j_le0_t (a := r.length) (by omega) c4
    refine e_aload_n 22 dX14_hears_21 rfl rfl ?_
    refine e_get 25 dX14_hears_22 rfl fl_X14_17_12 (stars_at _ 0 hL rfl) rfl ?_
    refine e_sipush 28 (v := (nI 256)) dX14_hears_25 rfl (by decide) ?_
    refine e_icmp_ne 44 31 dX14_hears_28 rfl rfl (fun c28 => ?_) (fun c28 => ?_)
    · have k28 := j_ne_t (a := r.length) (b := 256) (by omega) (by omega) c28
      refine e_aload_n 45 dX14_hears_44 rfl rfl ?_
      refine e_get 48 dX14_hears_45 rfl fl_X14_7_12 (stars_at _ 0 hL rfl) rfl ?_
      refine e_aload_n 49 dX14_hears_48 rfl rfl ?_
      refine e_get 52 dX14_hears_49 rfl fl_X14_17_12 (stars_at _ 0 hL rfl) rfl ?_
      refine e_iload_n 53 dX14_hears_52 rfl rfl ?_
      refine p_iastR 54 hL 1 (r := r) (r' := (r ++ [b])) (k := r.length) (v := b) (L' := [pt s (.inr (12, [.ref a, .int (nI r.length), .int (nI q), .int (bI sp), .int (bI ov)])), iar a 256 (r ++ [b])]) rfl dX14_hears_53 rfl (by omega) (by omega) (iw_app (by omega)) rfl (fun h hL => ?_)
      refine e_aload_n 55 dX14_hears_54 rfl rfl ?_
      refine e_dup 56 dX14_hears_55 rfl rfl ?_
      refine e_get 59 dX14_hears_56 rfl fl_X14_17_12 (stars_at _ 0 hL rfl) rfl ?_
      refine e_iconst 60 (v := (nI 1)) dX14_hears_59 rfl (by decide) ?_
      refine e_iadd 61 (v := (nI (r.length + 1))) dX14_hears_60 rfl (nI_add r.length 1) ?_
      refine p_put 64 hL 0 (fs' := [.ref a, .int (nI (r.length + 1)), .int (nI q), .int (bI sp), .int (bI ov)]) (L' := [pt s (.inr (12, [.ref a, .int (nI (r.length + 1)), .int (nI q), .int (bI sp), .int (bI ov)])), iar a 256 (r ++ [b])]) rfl rfl dX14_hears_61 rfl fp_X14_17_12 (Or.inl rfl) (Nat.le_of_ble_eq_true rfl) rfl rfl rfl (fun h hL => ?_)
      refine e_aload_n 65 dX14_hears_64 rfl rfl ?_
      refine e_iconst 66 (v := (nI 0)) dX14_hears_65 rfl (by decide) ?_
      refine p_put 69 hL 0 (fs' := [.ref a, .int (nI (r.length + 1)), .int (nI 0), .int (bI sp), .int (bI ov)]) (L' := [pt s (.inr (12, [.ref a, .int (nI (r.length + 1)), .int (nI 0), .int (bI sp), .int (bI ov)])), iar a 256 (r ++ [b])]) rfl rfl dX14_hears_66 rfl fp_X14_13_12 (Or.inl rfl) (Nat.le_of_ble_eq_true rfl) rfl rfl rfl (fun h hL => ?_)
      exact e_vret dX14_hears_69 rfl (by omega) (by omega) (⟨_, ⟨rfl, rfl⟩, by rw [show hrR r b = (r ++ [b]) by simp only [hrR]; exact if_pos (by omega), show hrS r q sp = sp by unfold hrS; cases sp <;> (try simp only [Bool.and_eq_true, Bool.or_eq_true, Bool.not_eq_true', Bool.and_eq_false_iff, Bool.or_eq_false_iff, Bool.not_eq_false', decide_eq_true_eq, decide_eq_false_iff_not, Bool.false_or, Bool.true_or, Bool.or_false, Bool.or_true, Bool.not_false, Bool.not_true, Bool.true_and, Bool.false_and, Bool.and_true, Bool.and_false, reduceCtorEq]) <;> (try omega), show hrO r ov = ov by unfold hrO; cases ov <;> (try simp only [Bool.and_eq_true, Bool.or_eq_true, Bool.not_eq_true', Bool.and_eq_false_iff, Bool.or_eq_false_iff, Bool.not_eq_false', decide_eq_true_eq, decide_eq_false_iff_not, Bool.false_or, Bool.true_or, Bool.or_false, Bool.or_true, Bool.not_false, Bool.not_true, Bool.true_and, Bool.false_and, Bool.and_true, Bool.and_false, reduceCtorEq]) <;> (try omega)]; rw [List.length_append]; exact hL⟩)
    · have k28 := j_ne_f (a := r.length) (b := 256) (by omega) (by omega) c28
      refine e_aload_n 32 dX14_hears_31 rfl rfl ?_
      refine e_iconst 33 (v := (nI 1)) dX14_hears_32 rfl (by decide) ?_
      refine p_put 36 hL 0 (fs' := [.ref a, .int (nI r.length), .int (nI q), .int (nI 1), .int (bI ov)]) (L' := [pt s (.inr (12, [.ref a, .int (nI r.length), .int (nI q), .int (nI 1), .int (bI ov)])), iar a 256 r]) rfl rfl dX14_hears_33 rfl fp_X14_20_12 (Or.inl rfl) (Nat.le_of_ble_eq_true rfl) (by decide) rfl rfl (fun h hL => ?_)
      refine e_aload_n 37 dX14_hears_36 rfl rfl ?_
      refine e_iconst 38 (v := (nI 1)) dX14_hears_37 rfl (by decide) ?_
      refine p_put 41 hL 0 (fs' := [.ref a, .int (nI r.length), .int (nI q), .int (nI 1), .int (nI 1)]) (L' := [pt s (.inr (12, [.ref a, .int (nI r.length), .int (nI q), .int (nI 1), .int (nI 1)])), iar a 256 r]) rfl rfl dX14_hears_38 rfl fp_X14_24_12 (Or.inl rfl) (Nat.le_of_ble_eq_true rfl) (by decide) rfl rfl (fun h hL => ?_)
      refine e_goto 64 dX14_hears_41 rfl ?_
      refine e_aload_n 65 dX14_hears_64 rfl rfl ?_
      refine e_iconst 66 (v := (nI 0)) dX14_hears_65 rfl (by decide) ?_
      refine p_put 69 hL 0 (fs' := [.ref a, .int (nI r.length), .int (nI 0), .int (nI 1), .int (nI 1)]) (L' := [pt s (.inr (12, [.ref a, .int (nI r.length), .int (nI 0), .int (nI 1), .int (nI 1)])), iar a 256 r]) rfl rfl dX14_hears_66 rfl fp_X14_13_12 (Or.inl rfl) (Nat.le_of_ble_eq_true rfl) rfl rfl rfl (fun h hL => ?_)
      exact e_vret dX14_hears_69 rfl (by omega) (by omega) (⟨_, ⟨rfl, rfl⟩, by rw [show hrR r b = r by simp only [hrR]; exact if_neg (by omega), show hrS r q sp = true by unfold hrS; cases sp <;> (try simp only [Bool.and_eq_true, Bool.or_eq_true, Bool.not_eq_true', Bool.and_eq_false_iff, Bool.or_eq_false_iff, Bool.not_eq_false', decide_eq_true_eq, decide_eq_false_iff_not, Bool.false_or, Bool.true_or, Bool.or_false, Bool.or_true, Bool.not_false, Bool.not_true, Bool.true_and, Bool.false_and, Bool.and_true, Bool.and_false, reduceCtorEq]) <;> (try omega), show hrO r ov = true by unfold hrO; cases ov <;> (try simp only [Bool.and_eq_true, Bool.or_eq_true, Bool.not_eq_true', Bool.and_eq_false_iff, Bool.or_eq_false_iff, Bool.not_eq_false', decide_eq_true_eq, decide_eq_false_iff_not, Bool.false_or, Bool.true_or, Bool.or_false, Bool.or_true, Bool.not_false, Bool.not_true, Bool.true_and, Bool.false_and, Bool.and_true, Bool.and_false, reduceCtorEq]) <;> (try omega)]; exact hL⟩)
  · have k4 := j_le0_f (a := r.length) (by omega) c4
    refine e_aload_n 8 dX14_hears_7 rfl rfl ?_
    refine e_get 11 dX14_hears_8 rfl fl_X14_13_12 (stars_at _ 0 hL rfl) rfl ?_
    refine e_bipush 13 (v := (nI 6)) dX14_hears_11 rfl (by decide) ?_
    refine e_icmp_le 21 16 dX14_hears_13 rfl rfl (fun c13 => ?_) (fun c13 => ?_)
    · have k13 := j_le_t (a := q) (b := 6) (by omega) (by omega) c13
      refine e_aload_n 22 dX14_hears_21 rfl rfl ?_
      refine e_get 25 dX14_hears_22 rfl fl_X14_17_12 (stars_at _ 0 hL rfl) rfl ?_
      refine e_sipush 28 (v := (nI 256)) dX14_hears_25 rfl (by decide) ?_
      refine e_icmp_ne 44 31 dX14_hears_28 rfl rfl (fun c28 => ?_) (fun c28 => ?_)
      · have k28 := j_ne_t (a := r.length) (b := 256) (by omega) (by omega) c28
        refine e_aload_n 45 dX14_hears_44 rfl rfl ?_
        refine e_get 48 dX14_hears_45 rfl fl_X14_7_12 (stars_at _ 0 hL rfl) rfl ?_
        refine e_aload_n 49 dX14_hears_48 rfl rfl ?_
        refine e_get 52 dX14_hears_49 rfl fl_X14_17_12 (stars_at _ 0 hL rfl) rfl ?_
        refine e_iload_n 53 dX14_hears_52 rfl rfl ?_
        refine p_iastR 54 hL 1 (r := r) (r' := (r ++ [b])) (k := r.length) (v := b) (L' := [pt s (.inr (12, [.ref a, .int (nI r.length), .int (nI q), .int (bI sp), .int (bI ov)])), iar a 256 (r ++ [b])]) rfl dX14_hears_53 rfl (by omega) (by omega) (iw_app (by omega)) rfl (fun h hL => ?_)
        refine e_aload_n 55 dX14_hears_54 rfl rfl ?_
        refine e_dup 56 dX14_hears_55 rfl rfl ?_
        refine e_get 59 dX14_hears_56 rfl fl_X14_17_12 (stars_at _ 0 hL rfl) rfl ?_
        refine e_iconst 60 (v := (nI 1)) dX14_hears_59 rfl (by decide) ?_
        refine e_iadd 61 (v := (nI (r.length + 1))) dX14_hears_60 rfl (nI_add r.length 1) ?_
        refine p_put 64 hL 0 (fs' := [.ref a, .int (nI (r.length + 1)), .int (nI q), .int (bI sp), .int (bI ov)]) (L' := [pt s (.inr (12, [.ref a, .int (nI (r.length + 1)), .int (nI q), .int (bI sp), .int (bI ov)])), iar a 256 (r ++ [b])]) rfl rfl dX14_hears_61 rfl fp_X14_17_12 (Or.inl rfl) (Nat.le_of_ble_eq_true rfl) rfl rfl rfl (fun h hL => ?_)
        refine e_aload_n 65 dX14_hears_64 rfl rfl ?_
        refine e_iconst 66 (v := (nI 0)) dX14_hears_65 rfl (by decide) ?_
        refine p_put 69 hL 0 (fs' := [.ref a, .int (nI (r.length + 1)), .int (nI 0), .int (bI sp), .int (bI ov)]) (L' := [pt s (.inr (12, [.ref a, .int (nI (r.length + 1)), .int (nI 0), .int (bI sp), .int (bI ov)])), iar a 256 (r ++ [b])]) rfl rfl dX14_hears_66 rfl fp_X14_13_12 (Or.inl rfl) (Nat.le_of_ble_eq_true rfl) rfl rfl rfl (fun h hL => ?_)
        exact e_vret dX14_hears_69 rfl (by omega) (by omega) (⟨_, ⟨rfl, rfl⟩, by rw [show hrR r b = (r ++ [b]) by simp only [hrR]; exact if_pos (by omega), show hrS r q sp = sp by unfold hrS; cases sp <;> (try simp only [Bool.and_eq_true, Bool.or_eq_true, Bool.not_eq_true', Bool.and_eq_false_iff, Bool.or_eq_false_iff, Bool.not_eq_false', decide_eq_true_eq, decide_eq_false_iff_not, Bool.false_or, Bool.true_or, Bool.or_false, Bool.or_true, Bool.not_false, Bool.not_true, Bool.true_and, Bool.false_and, Bool.and_true, Bool.and_false, reduceCtorEq]) <;> (try omega), show hrO r ov = ov by unfold hrO; cases ov <;> (try simp only [Bool.and_eq_true, Bool.or_eq_true, Bool.not_eq_true', Bool.and_eq_false_iff, Bool.or_eq_false_iff, Bool.not_eq_false', decide_eq_true_eq, decide_eq_false_iff_not, Bool.false_or, Bool.true_or, Bool.or_false, Bool.or_true, Bool.not_false, Bool.not_true, Bool.true_and, Bool.false_and, Bool.and_true, Bool.and_false, reduceCtorEq]) <;> (try omega)]; rw [List.length_append]; exact hL⟩)
      · have k28 := j_ne_f (a := r.length) (b := 256) (by omega) (by omega) c28
        refine e_aload_n 32 dX14_hears_31 rfl rfl ?_
        refine e_iconst 33 (v := (nI 1)) dX14_hears_32 rfl (by decide) ?_
        refine p_put 36 hL 0 (fs' := [.ref a, .int (nI r.length), .int (nI q), .int (nI 1), .int (bI ov)]) (L' := [pt s (.inr (12, [.ref a, .int (nI r.length), .int (nI q), .int (nI 1), .int (bI ov)])), iar a 256 r]) rfl rfl dX14_hears_33 rfl fp_X14_20_12 (Or.inl rfl) (Nat.le_of_ble_eq_true rfl) (by decide) rfl rfl (fun h hL => ?_)
        refine e_aload_n 37 dX14_hears_36 rfl rfl ?_
        refine e_iconst 38 (v := (nI 1)) dX14_hears_37 rfl (by decide) ?_
        refine p_put 41 hL 0 (fs' := [.ref a, .int (nI r.length), .int (nI q), .int (nI 1), .int (nI 1)]) (L' := [pt s (.inr (12, [.ref a, .int (nI r.length), .int (nI q), .int (nI 1), .int (nI 1)])), iar a 256 r]) rfl rfl dX14_hears_38 rfl fp_X14_24_12 (Or.inl rfl) (Nat.le_of_ble_eq_true rfl) (by decide) rfl rfl (fun h hL => ?_)
        refine e_goto 64 dX14_hears_41 rfl ?_
        refine e_aload_n 65 dX14_hears_64 rfl rfl ?_
        refine e_iconst 66 (v := (nI 0)) dX14_hears_65 rfl (by decide) ?_
        refine p_put 69 hL 0 (fs' := [.ref a, .int (nI r.length), .int (nI 0), .int (nI 1), .int (nI 1)]) (L' := [pt s (.inr (12, [.ref a, .int (nI r.length), .int (nI 0), .int (nI 1), .int (nI 1)])), iar a 256 r]) rfl rfl dX14_hears_66 rfl fp_X14_13_12 (Or.inl rfl) (Nat.le_of_ble_eq_true rfl) rfl rfl rfl (fun h hL => ?_)
        exact e_vret dX14_hears_69 rfl (by omega) (by omega) (⟨_, ⟨rfl, rfl⟩, by rw [show hrR r b = r by simp only [hrR]; exact if_neg (by omega), show hrS r q sp = true by unfold hrS; cases sp <;> (try simp only [Bool.and_eq_true, Bool.or_eq_true, Bool.not_eq_true', Bool.and_eq_false_iff, Bool.or_eq_false_iff, Bool.not_eq_false', decide_eq_true_eq, decide_eq_false_iff_not, Bool.false_or, Bool.true_or, Bool.or_false, Bool.or_true, Bool.not_false, Bool.not_true, Bool.true_and, Bool.false_and, Bool.and_true, Bool.and_false, reduceCtorEq]) <;> (try omega), show hrO r ov = true by unfold hrO; cases ov <;> (try simp only [Bool.and_eq_true, Bool.or_eq_true, Bool.not_eq_true', Bool.and_eq_false_iff, Bool.or_eq_false_iff, Bool.not_eq_false', decide_eq_true_eq, decide_eq_false_iff_not, Bool.false_or, Bool.true_or, Bool.or_false, Bool.or_true, Bool.not_false, Bool.not_true, Bool.true_and, Bool.false_and, Bool.and_true, Bool.and_false, reduceCtorEq]) <;> (try omega)]; exact hL⟩)
    · have k13 := j_le_f (a := q) (b := 6) (by omega) (by omega) c13
      refine e_aload_n 17 dX14_hears_16 rfl rfl ?_
      refine e_iconst 18 (v := (nI 1)) dX14_hears_17 rfl (by decide) ?_
      refine p_put 21 hL 0 (fs' := [.ref a, .int (nI r.length), .int (nI q), .int (nI 1), .int (bI ov)]) (L' := [pt s (.inr (12, [.ref a, .int (nI r.length), .int (nI q), .int (nI 1), .int (bI ov)])), iar a 256 r]) rfl rfl dX14_hears_18 rfl fp_X14_20_12 (Or.inl rfl) (Nat.le_of_ble_eq_true rfl) (by decide) rfl rfl (fun h hL => ?_)
      refine e_aload_n 22 dX14_hears_21 rfl rfl ?_
      refine e_get 25 dX14_hears_22 rfl fl_X14_17_12 (stars_at _ 0 hL rfl) rfl ?_
      refine e_sipush 28 (v := (nI 256)) dX14_hears_25 rfl (by decide) ?_
      refine e_icmp_ne 44 31 dX14_hears_28 rfl rfl (fun c28 => ?_) (fun c28 => ?_)
      · have k28 := j_ne_t (a := r.length) (b := 256) (by omega) (by omega) c28
        refine e_aload_n 45 dX14_hears_44 rfl rfl ?_
        refine e_get 48 dX14_hears_45 rfl fl_X14_7_12 (stars_at _ 0 hL rfl) rfl ?_
        refine e_aload_n 49 dX14_hears_48 rfl rfl ?_
        refine e_get 52 dX14_hears_49 rfl fl_X14_17_12 (stars_at _ 0 hL rfl) rfl ?_
        refine e_iload_n 53 dX14_hears_52 rfl rfl ?_
        refine p_iastR 54 hL 1 (r := r) (r' := (r ++ [b])) (k := r.length) (v := b) (L' := [pt s (.inr (12, [.ref a, .int (nI r.length), .int (nI q), .int (nI 1), .int (bI ov)])), iar a 256 (r ++ [b])]) rfl dX14_hears_53 rfl (by omega) (by omega) (iw_app (by omega)) rfl (fun h hL => ?_)
        refine e_aload_n 55 dX14_hears_54 rfl rfl ?_
        refine e_dup 56 dX14_hears_55 rfl rfl ?_
        refine e_get 59 dX14_hears_56 rfl fl_X14_17_12 (stars_at _ 0 hL rfl) rfl ?_
        refine e_iconst 60 (v := (nI 1)) dX14_hears_59 rfl (by decide) ?_
        refine e_iadd 61 (v := (nI (r.length + 1))) dX14_hears_60 rfl (nI_add r.length 1) ?_
        refine p_put 64 hL 0 (fs' := [.ref a, .int (nI (r.length + 1)), .int (nI q), .int (nI 1), .int (bI ov)]) (L' := [pt s (.inr (12, [.ref a, .int (nI (r.length + 1)), .int (nI q), .int (nI 1), .int (bI ov)])), iar a 256 (r ++ [b])]) rfl rfl dX14_hears_61 rfl fp_X14_17_12 (Or.inl rfl) (Nat.le_of_ble_eq_true rfl) rfl rfl rfl (fun h hL => ?_)
        refine e_aload_n 65 dX14_hears_64 rfl rfl ?_
        refine e_iconst 66 (v := (nI 0)) dX14_hears_65 rfl (by decide) ?_
        refine p_put 69 hL 0 (fs' := [.ref a, .int (nI (r.length + 1)), .int (nI 0), .int (nI 1), .int (bI ov)]) (L' := [pt s (.inr (12, [.ref a, .int (nI (r.length + 1)), .int (nI 0), .int (nI 1), .int (bI ov)])), iar a 256 (r ++ [b])]) rfl rfl dX14_hears_66 rfl fp_X14_13_12 (Or.inl rfl) (Nat.le_of_ble_eq_true rfl) rfl rfl rfl (fun h hL => ?_)
        exact e_vret dX14_hears_69 rfl (by omega) (by omega) (⟨_, ⟨rfl, rfl⟩, by rw [show hrR r b = (r ++ [b]) by simp only [hrR]; exact if_pos (by omega), show hrS r q sp = true by unfold hrS; cases sp <;> (try simp only [Bool.and_eq_true, Bool.or_eq_true, Bool.not_eq_true', Bool.and_eq_false_iff, Bool.or_eq_false_iff, Bool.not_eq_false', decide_eq_true_eq, decide_eq_false_iff_not, Bool.false_or, Bool.true_or, Bool.or_false, Bool.or_true, Bool.not_false, Bool.not_true, Bool.true_and, Bool.false_and, Bool.and_true, Bool.and_false, reduceCtorEq]) <;> (try omega), show hrO r ov = ov by unfold hrO; cases ov <;> (try simp only [Bool.and_eq_true, Bool.or_eq_true, Bool.not_eq_true', Bool.and_eq_false_iff, Bool.or_eq_false_iff, Bool.not_eq_false', decide_eq_true_eq, decide_eq_false_iff_not, Bool.false_or, Bool.true_or, Bool.or_false, Bool.or_true, Bool.not_false, Bool.not_true, Bool.true_and, Bool.false_and, Bool.and_true, Bool.and_false, reduceCtorEq]) <;> (try omega)]; rw [List.length_append]; exact hL⟩)
      · have k28 := j_ne_f (a := r.length) (b := 256) (by omega) (by omega) c28
        refine e_aload_n 32 dX14_hears_31 rfl rfl ?_
        refine e_iconst 33 (v := (nI 1)) dX14_hears_32 rfl (by decide) ?_
        refine p_put 36 hL 0 (fs' := [.ref a, .int (nI r.length), .int (nI q), .int (nI 1), .int (bI ov)]) (L' := [pt s (.inr (12, [.ref a, .int (nI r.length), .int (nI q), .int (nI 1), .int (bI ov)])), iar a 256 r]) rfl rfl dX14_hears_33 rfl fp_X14_20_12 (Or.inl rfl) (Nat.le_of_ble_eq_true rfl) (by decide) rfl rfl (fun h hL => ?_)
        refine e_aload_n 37 dX14_hears_36 rfl rfl ?_
        refine e_iconst 38 (v := (nI 1)) dX14_hears_37 rfl (by decide) ?_
        refine p_put 41 hL 0 (fs' := [.ref a, .int (nI r.length), .int (nI q), .int (nI 1), .int (nI 1)]) (L' := [pt s (.inr (12, [.ref a, .int (nI r.length), .int (nI q), .int (nI 1), .int (nI 1)])), iar a 256 r]) rfl rfl dX14_hears_38 rfl fp_X14_24_12 (Or.inl rfl) (Nat.le_of_ble_eq_true rfl) (by decide) rfl rfl (fun h hL => ?_)
        refine e_goto 64 dX14_hears_41 rfl ?_
        refine e_aload_n 65 dX14_hears_64 rfl rfl ?_
        refine e_iconst 66 (v := (nI 0)) dX14_hears_65 rfl (by decide) ?_
        refine p_put 69 hL 0 (fs' := [.ref a, .int (nI r.length), .int (nI 0), .int (nI 1), .int (nI 1)]) (L' := [pt s (.inr (12, [.ref a, .int (nI r.length), .int (nI 0), .int (nI 1), .int (nI 1)])), iar a 256 r]) rfl rfl dX14_hears_66 rfl fp_X14_13_12 (Or.inl rfl) (Nat.le_of_ble_eq_true rfl) rfl rfl rfl (fun h hL => ?_)
        exact e_vret dX14_hears_69 rfl (by omega) (by omega) (⟨_, ⟨rfl, rfl⟩, by rw [show hrR r b = r by simp only [hrR]; exact if_neg (by omega), show hrS r q sp = true by unfold hrS; cases sp <;> (try simp only [Bool.and_eq_true, Bool.or_eq_true, Bool.not_eq_true', Bool.and_eq_false_iff, Bool.or_eq_false_iff, Bool.not_eq_false', decide_eq_true_eq, decide_eq_false_iff_not, Bool.false_or, Bool.true_or, Bool.or_false, Bool.or_true, Bool.not_false, Bool.not_true, Bool.true_and, Bool.false_and, Bool.and_true, Bool.and_false, reduceCtorEq]) <;> (try omega), show hrO r ov = true by unfold hrO; cases ov <;> (try simp only [Bool.and_eq_true, Bool.or_eq_true, Bool.not_eq_true', Bool.and_eq_false_iff, Bool.or_eq_false_iff, Bool.not_eq_false', decide_eq_true_eq, decide_eq_false_iff_not, Bool.false_or, Bool.true_or, Bool.or_false, Bool.or_true, Bool.not_false, Bool.not_true, Bool.true_and, Bool.false_and, Bool.and_true, Bool.and_false, reduceCtorEq]) <;> (try omega)]; exact hL⟩)
set_option maxRecDepth 20000 in
set_option maxHeartbeats 2000000 in
theorem k_X14_isGood {s a q : Nat} {r : List Nat} {sp ov : Bool} (hb : ∀ x ∈ r, x < 65536) : CA mX14_isGood [.ref s] [pt s (.inr (12, [.ref a, .int (nI r.length), .int (nI q), .int (bI sp), .int (bI ov)])), iar a 256 r] (fun x K => x = some (.int (bI (goodF r sp))) ∧ K = [pt s (.inr (12, [.ref a, .int (nI r.length), .int (nI q), .int (bI sp), .int (bI ov)])), iar a 256 r]) 1 26 0 0 := by
  refine CA.mk 0 (ls := [some (.ref s)]) rfl rfl (Nat.le_of_ble_eq_true rfl) rfl (fun h hL => ?_)
  have hlen := iar_le _ 1 hL rfl
  have b1 := gd_lt (i := r.length - 2) hb (by decide)
  have b2 := gd_lt (i := r.length - 1) hb (by decide)
  have b3 : crs (r.take (r.length - 2)) < 65536 := crs_lt (fun x hx => hb x (List.mem_of_mem_take hx))
  refine e_aload_n 1 dX14_isGood_0 rfl rfl ?_
  refine e_get 4 dX14_isGood_1 rfl fl_X14_20_12 (stars_at _ 0 hL rfl) rfl ?_
  refine e_if_ne 62 7 dX14_isGood_4 rfl rfl (fun c4 => ?_) (fun c4 => ?_)
  · have k4 := jb_ne_t c4
    refine e_iconst 63 (v := (nI 0)) dX14_isGood_62 rfl (by decide) ?_
    exact e_zret dX14_isGood_63 rfl (Or.inl (by decide)) (by omega) (by omega) (⟨_, ⟨by rw [show goodF r sp = false by unfold goodF; rw [k4]; rfl]; rfl, rfl⟩, hL⟩)
  · have k4 := jb_ne_f c4
    refine e_aload_n 8 dX14_isGood_7 rfl rfl ?_
    refine e_get 11 dX14_isGood_8 rfl fl_X14_17_12 (stars_at _ 0 hL rfl) rfl ?_
    refine e_iconst 12 (v := (nI 4)) dX14_isGood_11 rfl (by decide) ?_
    refine e_icmp_lt 62 15 dX14_isGood_12 rfl rfl (fun c12 => ?_) (fun c12 => ?_)
    · have k12 := j_lt_t (a := r.length) (b := 4) (by omega) (by omega) c12
      refine e_iconst 63 (v := (nI 0)) dX14_isGood_62 rfl (by decide) ?_
      exact e_zret dX14_isGood_63 rfl (Or.inl (by decide)) (by omega) (by omega) (⟨_, ⟨by rw [show goodF r sp = false by unfold goodF; rw [k4]; (try simp only [Bool.and_eq_true, Bool.or_eq_true, Bool.not_eq_true', Bool.and_eq_false_iff, Bool.or_eq_false_iff, Bool.not_eq_false', decide_eq_true_eq, decide_eq_false_iff_not, Bool.false_or, Bool.true_or, Bool.or_false, Bool.or_true, Bool.not_false, Bool.not_true, Bool.true_and, Bool.false_and, Bool.and_true, Bool.and_false, reduceCtorEq]) <;> (try omega)]; rfl, rfl⟩, hL⟩)
    · have k12 := j_lt_f (a := r.length) (b := 4) (by omega) (by omega) c12
      refine e_aload_n 16 dX14_isGood_15 rfl rfl ?_
      refine e_get 19 dX14_isGood_16 rfl fl_X14_7_12 (stars_at _ 0 hL rfl) rfl ?_
      refine e_aload_n 20 dX14_isGood_19 rfl rfl ?_
      refine e_get 23 dX14_isGood_20 rfl fl_X14_17_12 (stars_at _ 0 hL rfl) rfl ?_
      refine e_iconst 24 (v := (nI 2)) dX14_isGood_23 rfl (by decide) ?_
      refine e_isub 25 (v := (nI (r.length - 2))) dX14_isGood_24 rfl (pk_sub (by omega)) ?_
      refine p_callS 28 hL [1, 0] 2 rfl (by decide) (L1 := [iar a 256 r]) (L2 := [pt s (.inr (12, [.ref a, .int (nI r.length), .int (nI q), .int (bI sp), .int (bI ov)]))]) rfl dX14_isGood_25 rfl cs_X14_27 (k_X15_sumOf (by omega) hb (by decide)) rfl rfl (Nat.le_of_ble_eq_true rfl) ⟨by decide, by omega, by omega⟩ (fun r1 L1 h q hL => ?_)
      obtain ⟨rfl, rfl⟩ := q
      have hL : stars [iar a 256 r, pt s (.inr (12, [.ref a, .int (nI r.length), .int (nI q), .int (bI sp), .int (bI ov)]))] h := hL
      have hL : stars [pt s (.inr (12, [.ref a, .int (nI r.length), .int (nI q), .int (bI sp), .int (bI ov)])), iar a 256 r] h := stars_ixn hL 2 rfl [1, 0] (by decide) rfl
      refine e_aload_n 29 dX14_isGood_28 rfl rfl ?_
      refine e_get 32 dX14_isGood_29 rfl fl_X14_7_12 (stars_at _ 0 hL rfl) rfl ?_
      refine e_aload_n 33 dX14_isGood_32 rfl rfl ?_
      refine e_get 36 dX14_isGood_33 rfl fl_X14_17_12 (stars_at _ 0 hL rfl) rfl ?_
      refine e_iconst 37 (v := (nI 2)) dX14_isGood_36 rfl (by decide) ?_
      refine e_isub 38 (v := (nI (r.length - 2))) dX14_isGood_37 rfl (pk_sub (by omega)) ?_
      refine p_iald 39 hL 1 (r := r) (k := (r.length - 2)) rfl dX14_isGood_38 rfl (by omega) (by omega) ?_
      refine e_sipush 42 (v := (nI 256)) dX14_isGood_39 rfl (by decide) ?_
      refine e_aload_n 43 dX14_isGood_42 rfl rfl ?_
      refine e_get 46 dX14_isGood_43 rfl fl_X14_7_12 (stars_at _ 0 hL rfl) rfl ?_
      refine e_aload_n 47 dX14_isGood_46 rfl rfl ?_
      refine e_get 50 dX14_isGood_47 rfl fl_X14_17_12 (stars_at _ 0 hL rfl) rfl ?_
      refine e_iconst 51 (v := (nI 1)) dX14_isGood_50 rfl (by decide) ?_
      refine e_isub 52 (v := (nI (r.length - 1))) dX14_isGood_51 rfl (pk_sub (by omega)) ?_
      refine p_iald 53 hL 1 (r := r) (k := (r.length - 1)) rfl dX14_isGood_52 rfl (by omega) (by omega) ?_
      refine e_imul 54 (v := (nI (256 * (r.getD (r.length - 1) 0)))) dX14_isGood_53 rfl (pk_mul 256 (r.getD (r.length - 1) 0)) ?_
      refine e_iadd 55 (v := (nI ((r.getD (r.length - 2) 0) + (256 * (r.getD (r.length - 1) 0))))) dX14_isGood_54 rfl (nI_add (r.getD (r.length - 2) 0) (256 * (r.getD (r.length - 1) 0))) ?_
      refine e_icmp_ne 62 58 dX14_isGood_55 rfl rfl (fun c55 => ?_) (fun c55 => ?_)
      · have k55 := j_ne_t (a := (crs (r.take (r.length - 2)))) (b := ((r.getD (r.length - 2) 0) + (256 * (r.getD (r.length - 1) 0)))) (by omega) (by omega) c55
        refine e_iconst 63 (v := (nI 0)) dX14_isGood_62 rfl (by decide) ?_
        exact e_zret dX14_isGood_63 rfl (Or.inl (by decide)) (by omega) (by omega) (⟨_, ⟨by rw [show goodF r sp = false by unfold goodF; rw [k4]; (try simp only [Bool.and_eq_true, Bool.or_eq_true, Bool.not_eq_true', Bool.and_eq_false_iff, Bool.or_eq_false_iff, Bool.not_eq_false', decide_eq_true_eq, decide_eq_false_iff_not, Bool.false_or, Bool.true_or, Bool.or_false, Bool.or_true, Bool.not_false, Bool.not_true, Bool.true_and, Bool.false_and, Bool.and_true, Bool.and_false, reduceCtorEq]) <;> (try omega)]; rfl, rfl⟩, hL⟩)
      · have k55 := j_ne_f (a := (crs (r.take (r.length - 2)))) (b := ((r.getD (r.length - 2) 0) + (256 * (r.getD (r.length - 1) 0)))) (by omega) (by omega) c55
        refine e_iconst 59 (v := (nI 1)) dX14_isGood_58 rfl (by decide) ?_
        refine e_goto 63 dX14_isGood_59 rfl ?_
        exact e_zret dX14_isGood_63 rfl (Or.inr (by decide)) (by omega) (by omega) (⟨_, ⟨by rw [show goodF r sp = true by unfold goodF; rw [k4]; (try simp only [Bool.and_eq_true, Bool.or_eq_true, Bool.not_eq_true', Bool.and_eq_false_iff, Bool.or_eq_false_iff, Bool.not_eq_false', decide_eq_true_eq, decide_eq_false_iff_not, Bool.false_or, Bool.true_or, Bool.or_false, Bool.or_true, Bool.not_false, Bool.not_true, Bool.true_and, Bool.false_and, Bool.and_true, Bool.and_false, reduceCtorEq]) <;> (try omega)]; rfl, rfl⟩, hL⟩)
theorem iar_em {L L' : List sA} (i : Nat) {a n : Nat} {r : List Nat} {h : eH} (hL : stars L h) (hi : L[i]? = some (iar a n r)) (hL' : L.set i (iar a n []) = L') : stars L' h := by
  obtain ⟨-, -, k⟩ := stars_at_ex L i (ι := Unit) (C := fun _ => True) (P' := fun _ => iar a n []) hL hi (fun h8 ⟨f, _, p⟩ => ⟨(), trivial, f, ⟨Nat.zero_le _, fun j hj => absurd hj (Nat.not_lt_zero j)⟩, p⟩)
  rw [hL'] at k
  exact k
set_option maxRecDepth 20000 in
set_option maxHeartbeats 2000000 in
theorem k_X14_empties {s a q : Nat} {r : List Nat} {sp ov : Bool} : CA mX14_empties [.ref s] [pt s (.inr (12, [.ref a, .int (nI r.length), .int (nI q), .int (bI sp), .int (bI ov)])), iar a 256 r] (fun x K => x = none ∧ K = [pt s (.inr (12, [.ref a, .int (nI 0), .int (nI q), .int (bI false), .int (bI false)])), iar a 256 ([])]) 0 0 0 0 := by
  refine CA.mk 0 (ls := [some (.ref s)]) rfl rfl (Nat.le_of_ble_eq_true rfl) rfl (fun h hL => ?_)
  refine e_aload_n 1 dX14_empties_0 rfl rfl ?_
  refine e_iconst 2 (v := (nI 0)) dX14_empties_1 rfl (by decide) ?_
  refine p_put 5 hL 0 (fs' := [.ref a, .int (nI 0), .int (nI q), .int (bI sp), .int (bI ov)]) (L' := [pt s (.inr (12, [.ref a, .int (nI 0), .int (nI q), .int (bI sp), .int (bI ov)])), iar a 256 r]) rfl rfl dX14_empties_2 rfl fp_X14_17_12 (Or.inl rfl) (Nat.le_of_ble_eq_true rfl) rfl rfl rfl (fun h hL => ?_)
  refine e_aload_n 6 dX14_empties_5 rfl rfl ?_
  refine e_iconst 7 (v := (nI 0)) dX14_empties_6 rfl (by decide) ?_
  refine p_put 10 hL 0 (fs' := [.ref a, .int (nI 0), .int (nI q), .int (nI 0), .int (bI ov)]) (L' := [pt s (.inr (12, [.ref a, .int (nI 0), .int (nI q), .int (nI 0), .int (bI ov)])), iar a 256 r]) rfl rfl dX14_empties_7 rfl fp_X14_20_12 (Or.inl rfl) (Nat.le_of_ble_eq_true rfl) (by decide) rfl rfl (fun h hL => ?_)
  refine e_aload_n 11 dX14_empties_10 rfl rfl ?_
  refine e_iconst 12 (v := (nI 0)) dX14_empties_11 rfl (by decide) ?_
  refine p_put 15 hL 0 (fs' := [.ref a, .int (nI 0), .int (nI q), .int (nI 0), .int (nI 0)]) (L' := [pt s (.inr (12, [.ref a, .int (nI 0), .int (nI q), .int (nI 0), .int (nI 0)])), iar a 256 r]) rfl rfl dX14_empties_12 rfl fp_X14_24_12 (Or.inl rfl) (Nat.le_of_ble_eq_true rfl) (by decide) rfl rfl (fun h hL => ?_)
  exact e_vret dX14_empties_15 rfl (by omega) (by omega) (⟨_, ⟨rfl, rfl⟩, iar_em 1 hL rfl rfl⟩)
set_option maxRecDepth 20000 in
set_option maxHeartbeats 2000000 in
theorem k_X14_hearsD {s a q : Nat} {r : List Nat} {sp ov : Bool} {xs : List Value} {b : Nat} (hq : q < 1000000) : CA mX14_hears [.ref s, .int (nI b)] [pt s (.inr (10, .ref a :: .int (nI r.length) :: .int (nI q) :: .int (bI sp) :: .int (bI ov) :: xs)), iar a 256 r] (fun x K => x = none ∧ K = [pt s (.inr (10, .ref a :: .int (nI (hrR r b).length) :: .int (nI 0) :: .int (bI (hrS r q sp)) :: .int (bI (hrO r ov)) :: xs)), iar a 256 (hrR r b)]) 0 0 0 0 := by
  refine CA.mk 0 (ls := [some (.ref s), some (.int (nI b))]) rfl rfl (Nat.le_of_ble_eq_true rfl) rfl (fun h hL => ?_)
  have hlen := iar_le _ 1 hL rfl
  refine e_aload_n 1 dX14_hears_0 rfl rfl ?_
  refine e_get 4 dX14_hears_1 rfl fl_X14_17_10 (stars_at _ 0 hL rfl) rfl ?_
  refine e_if_le 21 7 dX14_hears_4 rfl rfl (fun c4 => ?_) (fun c4 => ?_)
  · have k4 := j_le0_t (a := r.length) (by omega) c4
    refine e_aload_n 22 dX14_hears_21 rfl rfl ?_
    refine e_get 25 dX14_hears_22 rfl fl_X14_17_10 (stars_at _ 0 hL rfl) rfl ?_
    refine e_sipush 28 (v := (nI 256)) dX14_hears_25 rfl (by decide) ?_
    refine e_icmp_ne 44 31 dX14_hears_28 rfl rfl (fun c28 => ?_) (fun c28 => ?_)
    · have k28 := j_ne_t (a := r.length) (b := 256) (by omega) (by omega) c28
      refine e_aload_n 45 dX14_hears_44 rfl rfl ?_
      refine e_get 48 dX14_hears_45 rfl fl_X14_7_10 (stars_at _ 0 hL rfl) rfl ?_
      refine e_aload_n 49 dX14_hears_48 rfl rfl ?_
      refine e_get 52 dX14_hears_49 rfl fl_X14_17_10 (stars_at _ 0 hL rfl) rfl ?_
      refine e_iload_n 53 dX14_hears_52 rfl rfl ?_
      refine p_iastR 54 hL 1 (r := r) (r' := (r ++ [b])) (k := r.length) (v := b) (L' := [pt s (.inr (10, .ref a :: .int (nI r.length) :: .int (nI q) :: .int (bI sp) :: .int (bI ov) :: xs)), iar a 256 (r ++ [b])]) rfl dX14_hears_53 rfl (by omega) (by omega) (iw_app (by omega)) rfl (fun h hL => ?_)
      refine e_aload_n 55 dX14_hears_54 rfl rfl ?_
      refine e_dup 56 dX14_hears_55 rfl rfl ?_
      refine e_get 59 dX14_hears_56 rfl fl_X14_17_10 (stars_at _ 0 hL rfl) rfl ?_
      refine e_iconst 60 (v := (nI 1)) dX14_hears_59 rfl (by decide) ?_
      refine e_iadd 61 (v := (nI (r.length + 1))) dX14_hears_60 rfl (nI_add r.length 1) ?_
      refine p_put 64 hL 0 (fs' := .ref a :: .int (nI (r.length + 1)) :: .int (nI q) :: .int (bI sp) :: .int (bI ov) :: xs) (L' := [pt s (.inr (10, .ref a :: .int (nI (r.length + 1)) :: .int (nI q) :: .int (bI sp) :: .int (bI ov) :: xs)), iar a 256 (r ++ [b])]) rfl rfl dX14_hears_61 rfl fp_X14_17_10 (Or.inl rfl) (Nat.le_of_ble_eq_true rfl) rfl rfl rfl (fun h hL => ?_)
      refine e_aload_n 65 dX14_hears_64 rfl rfl ?_
      refine e_iconst 66 (v := (nI 0)) dX14_hears_65 rfl (by decide) ?_
      refine p_put 69 hL 0 (fs' := .ref a :: .int (nI (r.length + 1)) :: .int (nI 0) :: .int (bI sp) :: .int (bI ov) :: xs) (L' := [pt s (.inr (10, .ref a :: .int (nI (r.length + 1)) :: .int (nI 0) :: .int (bI sp) :: .int (bI ov) :: xs)), iar a 256 (r ++ [b])]) rfl rfl dX14_hears_66 rfl fp_X14_13_10 (Or.inl rfl) (Nat.le_of_ble_eq_true rfl) rfl rfl rfl (fun h hL => ?_)
      exact e_vret dX14_hears_69 rfl (by omega) (by omega) (⟨_, ⟨rfl, rfl⟩, by rw [show hrR r b = (r ++ [b]) by simp only [hrR]; exact if_pos (by omega), show hrS r q sp = sp by unfold hrS; cases sp <;> (try simp only [Bool.and_eq_true, Bool.or_eq_true, Bool.not_eq_true', Bool.and_eq_false_iff, Bool.or_eq_false_iff, Bool.not_eq_false', decide_eq_true_eq, decide_eq_false_iff_not, Bool.false_or, Bool.true_or, Bool.or_false, Bool.or_true, Bool.not_false, Bool.not_true, Bool.true_and, Bool.false_and, Bool.and_true, Bool.and_false, reduceCtorEq]) <;> (try omega), show hrO r ov = ov by unfold hrO; cases ov <;> (try simp only [Bool.and_eq_true, Bool.or_eq_true, Bool.not_eq_true', Bool.and_eq_false_iff, Bool.or_eq_false_iff, Bool.not_eq_false', decide_eq_true_eq, decide_eq_false_iff_not, Bool.false_or, Bool.true_or, Bool.or_false, Bool.or_true, Bool.not_false, Bool.not_true, Bool.true_and, Bool.false_and, Bool.and_true, Bool.and_false, reduceCtorEq]) <;> (try omega)]; rw [List.length_append]; exact hL⟩)
    · have k28 := j_ne_f (a := r.length) (b := 256) (by omega) (by omega) c28
      refine e_aload_n 32 dX14_hears_31 rfl rfl ?_
      refine e_iconst 33 (v := (nI 1)) dX14_hears_32 rfl (by decide) ?_
      refine p_put 36 hL 0 (fs' := .ref a :: .int (nI r.length) :: .int (nI q) :: .int (nI 1) :: .int (bI ov) :: xs) (L' := [pt s (.inr (10, .ref a :: .int (nI r.length) :: .int (nI q) :: .int (nI 1) :: .int (bI ov) :: xs)), iar a 256 r]) rfl rfl dX14_hears_33 rfl fp_X14_20_10 (Or.inl rfl) (Nat.le_of_ble_eq_true rfl) (by decide) rfl rfl (fun h hL => ?_)
      refine e_aload_n 37 dX14_hears_36 rfl rfl ?_
      refine e_iconst 38 (v := (nI 1)) dX14_hears_37 rfl (by decide) ?_
      refine p_put 41 hL 0 (fs' := .ref a :: .int (nI r.length) :: .int (nI q) :: .int (nI 1) :: .int (nI 1) :: xs) (L' := [pt s (.inr (10, .ref a :: .int (nI r.length) :: .int (nI q) :: .int (nI 1) :: .int (nI 1) :: xs)), iar a 256 r]) rfl rfl dX14_hears_38 rfl fp_X14_24_10 (Or.inl rfl) (Nat.le_of_ble_eq_true rfl) (by decide) rfl rfl (fun h hL => ?_)
      refine e_goto 64 dX14_hears_41 rfl ?_
      refine e_aload_n 65 dX14_hears_64 rfl rfl ?_
      refine e_iconst 66 (v := (nI 0)) dX14_hears_65 rfl (by decide) ?_
      refine p_put 69 hL 0 (fs' := .ref a :: .int (nI r.length) :: .int (nI 0) :: .int (nI 1) :: .int (nI 1) :: xs) (L' := [pt s (.inr (10, .ref a :: .int (nI r.length) :: .int (nI 0) :: .int (nI 1) :: .int (nI 1) :: xs)), iar a 256 r]) rfl rfl dX14_hears_66 rfl fp_X14_13_10 (Or.inl rfl) (Nat.le_of_ble_eq_true rfl) rfl rfl rfl (fun h hL => ?_)
      exact e_vret dX14_hears_69 rfl (by omega) (by omega) (⟨_, ⟨rfl, rfl⟩, by rw [show hrR r b = r by simp only [hrR]; exact if_neg (by omega), show hrS r q sp = true by unfold hrS; cases sp <;> (try simp only [Bool.and_eq_true, Bool.or_eq_true, Bool.not_eq_true', Bool.and_eq_false_iff, Bool.or_eq_false_iff, Bool.not_eq_false', decide_eq_true_eq, decide_eq_false_iff_not, Bool.false_or, Bool.true_or, Bool.or_false, Bool.or_true, Bool.not_false, Bool.not_true, Bool.true_and, Bool.false_and, Bool.and_true, Bool.and_false, reduceCtorEq]) <;> (try omega), show hrO r ov = true by unfold hrO; cases ov <;> (try simp only [Bool.and_eq_true, Bool.or_eq_true, Bool.not_eq_true', Bool.and_eq_false_iff, Bool.or_eq_false_iff, Bool.not_eq_false', decide_eq_true_eq, decide_eq_false_iff_not, Bool.false_or, Bool.true_or, Bool.or_false, Bool.or_true, Bool.not_false, Bool.not_true, Bool.true_and, Bool.false_and, Bool.and_true, Bool.and_false, reduceCtorEq]) <;> (try omega)]; exact hL⟩)
  · have k4 := j_le0_f (a := r.length) (by omega) c4
    refine e_aload_n 8 dX14_hears_7 rfl rfl ?_
    refine e_get 11 dX14_hears_8 rfl fl_X14_13_10 (stars_at _ 0 hL rfl) rfl ?_
    refine e_bipush 13 (v := (nI 6)) dX14_hears_11 rfl (by decide) ?_
    refine e_icmp_le 21 16 dX14_hears_13 rfl rfl (fun c13 => ?_) (fun c13 => ?_)
    · have k13 := j_le_t (a := q) (b := 6) (by omega) (by omega) c13
      refine e_aload_n 22 dX14_hears_21 rfl rfl ?_
      refine e_get 25 dX14_hears_22 rfl fl_X14_17_10 (stars_at _ 0 hL rfl) rfl ?_
      refine e_sipush 28 (v := (nI 256)) dX14_hears_25 rfl (by decide) ?_
      refine e_icmp_ne 44 31 dX14_hears_28 rfl rfl (fun c28 => ?_) (fun c28 => ?_)
      · have k28 := j_ne_t (a := r.length) (b := 256) (by omega) (by omega) c28
        refine e_aload_n 45 dX14_hears_44 rfl rfl ?_
        refine e_get 48 dX14_hears_45 rfl fl_X14_7_10 (stars_at _ 0 hL rfl) rfl ?_
        refine e_aload_n 49 dX14_hears_48 rfl rfl ?_
        refine e_get 52 dX14_hears_49 rfl fl_X14_17_10 (stars_at _ 0 hL rfl) rfl ?_
        refine e_iload_n 53 dX14_hears_52 rfl rfl ?_
        refine p_iastR 54 hL 1 (r := r) (r' := (r ++ [b])) (k := r.length) (v := b) (L' := [pt s (.inr (10, .ref a :: .int (nI r.length) :: .int (nI q) :: .int (bI sp) :: .int (bI ov) :: xs)), iar a 256 (r ++ [b])]) rfl dX14_hears_53 rfl (by omega) (by omega) (iw_app (by omega)) rfl (fun h hL => ?_)
        refine e_aload_n 55 dX14_hears_54 rfl rfl ?_
        refine e_dup 56 dX14_hears_55 rfl rfl ?_
        refine e_get 59 dX14_hears_56 rfl fl_X14_17_10 (stars_at _ 0 hL rfl) rfl ?_
        refine e_iconst 60 (v := (nI 1)) dX14_hears_59 rfl (by decide) ?_
        refine e_iadd 61 (v := (nI (r.length + 1))) dX14_hears_60 rfl (nI_add r.length 1) ?_
        refine p_put 64 hL 0 (fs' := .ref a :: .int (nI (r.length + 1)) :: .int (nI q) :: .int (bI sp) :: .int (bI ov) :: xs) (L' := [pt s (.inr (10, .ref a :: .int (nI (r.length + 1)) :: .int (nI q) :: .int (bI sp) :: .int (bI ov) :: xs)), iar a 256 (r ++ [b])]) rfl rfl dX14_hears_61 rfl fp_X14_17_10 (Or.inl rfl) (Nat.le_of_ble_eq_true rfl) rfl rfl rfl (fun h hL => ?_)
        refine e_aload_n 65 dX14_hears_64 rfl rfl ?_
        refine e_iconst 66 (v := (nI 0)) dX14_hears_65 rfl (by decide) ?_
        refine p_put 69 hL 0 (fs' := .ref a :: .int (nI (r.length + 1)) :: .int (nI 0) :: .int (bI sp) :: .int (bI ov) :: xs) (L' := [pt s (.inr (10, .ref a :: .int (nI (r.length + 1)) :: .int (nI 0) :: .int (bI sp) :: .int (bI ov) :: xs)), iar a 256 (r ++ [b])]) rfl rfl dX14_hears_66 rfl fp_X14_13_10 (Or.inl rfl) (Nat.le_of_ble_eq_true rfl) rfl rfl rfl (fun h hL => ?_)
        exact e_vret dX14_hears_69 rfl (by omega) (by omega) (⟨_, ⟨rfl, rfl⟩, by rw [show hrR r b = (r ++ [b]) by simp only [hrR]; exact if_pos (by omega), show hrS r q sp = sp by unfold hrS; cases sp <;> (try simp only [Bool.and_eq_true, Bool.or_eq_true, Bool.not_eq_true', Bool.and_eq_false_iff, Bool.or_eq_false_iff, Bool.not_eq_false', decide_eq_true_eq, decide_eq_false_iff_not, Bool.false_or, Bool.true_or, Bool.or_false, Bool.or_true, Bool.not_false, Bool.not_true, Bool.true_and, Bool.false_and, Bool.and_true, Bool.and_false, reduceCtorEq]) <;> (try omega), show hrO r ov = ov by unfold hrO; cases ov <;> (try simp only [Bool.and_eq_true, Bool.or_eq_true, Bool.not_eq_true', Bool.and_eq_false_iff, Bool.or_eq_false_iff, Bool.not_eq_false', decide_eq_true_eq, decide_eq_false_iff_not, Bool.false_or, Bool.true_or, Bool.or_false, Bool.or_true, Bool.not_false, Bool.not_true, Bool.true_and, Bool.false_and, Bool.and_true, Bool.and_false, reduceCtorEq]) <;> (try omega)]; rw [List.length_append]; exact hL⟩)
      · have k28 := j_ne_f (a := r.length) (b := 256) (by omega) (by omega) c28
        refine e_aload_n 32 dX14_hears_31 rfl rfl ?_
        refine e_iconst 33 (v := (nI 1)) dX14_hears_32 rfl (by decide) ?_
        refine p_put 36 hL 0 (fs' := .ref a :: .int (nI r.length) :: .int (nI q) :: .int (nI 1) :: .int (bI ov) :: xs) (L' := [pt s (.inr (10, .ref a :: .int (nI r.length) :: .int (nI q) :: .int (nI 1) :: .int (bI ov) :: xs)), iar a 256 r]) rfl rfl dX14_hears_33 rfl fp_X14_20_10 (Or.inl rfl) (Nat.le_of_ble_eq_true rfl) (by decide) rfl rfl (fun h hL => ?_)
        refine e_aload_n 37 dX14_hears_36 rfl rfl ?_
        refine e_iconst 38 (v := (nI 1)) dX14_hears_37 rfl (by decide) ?_
        refine p_put 41 hL 0 (fs' := .ref a :: .int (nI r.length) :: .int (nI q) :: .int (nI 1) :: .int (nI 1) :: xs) (L' := [pt s (.inr (10, .ref a :: .int (nI r.length) :: .int (nI q) :: .int (nI 1) :: .int (nI 1) :: xs)), iar a 256 r]) rfl rfl dX14_hears_38 rfl fp_X14_24_10 (Or.inl rfl) (Nat.le_of_ble_eq_true rfl) (by decide) rfl rfl (fun h hL => ?_)
        refine e_goto 64 dX14_hears_41 rfl ?_
        refine e_aload_n 65 dX14_hears_64 rfl rfl ?_
        refine e_iconst 66 (v := (nI 0)) dX14_hears_65 rfl (by decide) ?_
        refine p_put 69 hL 0 (fs' := .ref a :: .int (nI r.length) :: .int (nI 0) :: .int (nI 1) :: .int (nI 1) :: xs) (L' := [pt s (.inr (10, .ref a :: .int (nI r.length) :: .int (nI 0) :: .int (nI 1) :: .int (nI 1) :: xs)), iar a 256 r]) rfl rfl dX14_hears_66 rfl fp_X14_13_10 (Or.inl rfl) (Nat.le_of_ble_eq_true rfl) rfl rfl rfl (fun h hL => ?_)
        exact e_vret dX14_hears_69 rfl (by omega) (by omega) (⟨_, ⟨rfl, rfl⟩, by rw [show hrR r b = r by simp only [hrR]; exact if_neg (by omega), show hrS r q sp = true by unfold hrS; cases sp <;> (try simp only [Bool.and_eq_true, Bool.or_eq_true, Bool.not_eq_true', Bool.and_eq_false_iff, Bool.or_eq_false_iff, Bool.not_eq_false', decide_eq_true_eq, decide_eq_false_iff_not, Bool.false_or, Bool.true_or, Bool.or_false, Bool.or_true, Bool.not_false, Bool.not_true, Bool.true_and, Bool.false_and, Bool.and_true, Bool.and_false, reduceCtorEq]) <;> (try omega), show hrO r ov = true by unfold hrO; cases ov <;> (try simp only [Bool.and_eq_true, Bool.or_eq_true, Bool.not_eq_true', Bool.and_eq_false_iff, Bool.or_eq_false_iff, Bool.not_eq_false', decide_eq_true_eq, decide_eq_false_iff_not, Bool.false_or, Bool.true_or, Bool.or_false, Bool.or_true, Bool.not_false, Bool.not_true, Bool.true_and, Bool.false_and, Bool.and_true, Bool.and_false, reduceCtorEq]) <;> (try omega)]; exact hL⟩)
    · have k13 := j_le_f (a := q) (b := 6) (by omega) (by omega) c13
      refine e_aload_n 17 dX14_hears_16 rfl rfl ?_
      refine e_iconst 18 (v := (nI 1)) dX14_hears_17 rfl (by decide) ?_
      refine p_put 21 hL 0 (fs' := .ref a :: .int (nI r.length) :: .int (nI q) :: .int (nI 1) :: .int (bI ov) :: xs) (L' := [pt s (.inr (10, .ref a :: .int (nI r.length) :: .int (nI q) :: .int (nI 1) :: .int (bI ov) :: xs)), iar a 256 r]) rfl rfl dX14_hears_18 rfl fp_X14_20_10 (Or.inl rfl) (Nat.le_of_ble_eq_true rfl) (by decide) rfl rfl (fun h hL => ?_)
      refine e_aload_n 22 dX14_hears_21 rfl rfl ?_
      refine e_get 25 dX14_hears_22 rfl fl_X14_17_10 (stars_at _ 0 hL rfl) rfl ?_
      refine e_sipush 28 (v := (nI 256)) dX14_hears_25 rfl (by decide) ?_
      refine e_icmp_ne 44 31 dX14_hears_28 rfl rfl (fun c28 => ?_) (fun c28 => ?_)
      · have k28 := j_ne_t (a := r.length) (b := 256) (by omega) (by omega) c28
        refine e_aload_n 45 dX14_hears_44 rfl rfl ?_
        refine e_get 48 dX14_hears_45 rfl fl_X14_7_10 (stars_at _ 0 hL rfl) rfl ?_
        refine e_aload_n 49 dX14_hears_48 rfl rfl ?_
        refine e_get 52 dX14_hears_49 rfl fl_X14_17_10 (stars_at _ 0 hL rfl) rfl ?_
        refine e_iload_n 53 dX14_hears_52 rfl rfl ?_
        refine p_iastR 54 hL 1 (r := r) (r' := (r ++ [b])) (k := r.length) (v := b) (L' := [pt s (.inr (10, .ref a :: .int (nI r.length) :: .int (nI q) :: .int (nI 1) :: .int (bI ov) :: xs)), iar a 256 (r ++ [b])]) rfl dX14_hears_53 rfl (by omega) (by omega) (iw_app (by omega)) rfl (fun h hL => ?_)
        refine e_aload_n 55 dX14_hears_54 rfl rfl ?_
        refine e_dup 56 dX14_hears_55 rfl rfl ?_
        refine e_get 59 dX14_hears_56 rfl fl_X14_17_10 (stars_at _ 0 hL rfl) rfl ?_
        refine e_iconst 60 (v := (nI 1)) dX14_hears_59 rfl (by decide) ?_
        refine e_iadd 61 (v := (nI (r.length + 1))) dX14_hears_60 rfl (nI_add r.length 1) ?_
        refine p_put 64 hL 0 (fs' := .ref a :: .int (nI (r.length + 1)) :: .int (nI q) :: .int (nI 1) :: .int (bI ov) :: xs) (L' := [pt s (.inr (10, .ref a :: .int (nI (r.length + 1)) :: .int (nI q) :: .int (nI 1) :: .int (bI ov) :: xs)), iar a 256 (r ++ [b])]) rfl rfl dX14_hears_61 rfl fp_X14_17_10 (Or.inl rfl) (Nat.le_of_ble_eq_true rfl) rfl rfl rfl (fun h hL => ?_)
        refine e_aload_n 65 dX14_hears_64 rfl rfl ?_
        refine e_iconst 66 (v := (nI 0)) dX14_hears_65 rfl (by decide) ?_
        refine p_put 69 hL 0 (fs' := .ref a :: .int (nI (r.length + 1)) :: .int (nI 0) :: .int (nI 1) :: .int (bI ov) :: xs) (L' := [pt s (.inr (10, .ref a :: .int (nI (r.length + 1)) :: .int (nI 0) :: .int (nI 1) :: .int (bI ov) :: xs)), iar a 256 (r ++ [b])]) rfl rfl dX14_hears_66 rfl fp_X14_13_10 (Or.inl rfl) (Nat.le_of_ble_eq_true rfl) rfl rfl rfl (fun h hL => ?_)
        exact e_vret dX14_hears_69 rfl (by omega) (by omega) (⟨_, ⟨rfl, rfl⟩, by rw [show hrR r b = (r ++ [b]) by simp only [hrR]; exact if_pos (by omega), show hrS r q sp = true by unfold hrS; cases sp <;> (try simp only [Bool.and_eq_true, Bool.or_eq_true, Bool.not_eq_true', Bool.and_eq_false_iff, Bool.or_eq_false_iff, Bool.not_eq_false', decide_eq_true_eq, decide_eq_false_iff_not, Bool.false_or, Bool.true_or, Bool.or_false, Bool.or_true, Bool.not_false, Bool.not_true, Bool.true_and, Bool.false_and, Bool.and_true, Bool.and_false, reduceCtorEq]) <;> (try omega), show hrO r ov = ov by unfold hrO; cases ov <;> (try simp only [Bool.and_eq_true, Bool.or_eq_true, Bool.not_eq_true', Bool.and_eq_false_iff, Bool.or_eq_false_iff, Bool.not_eq_false', decide_eq_true_eq, decide_eq_false_iff_not, Bool.false_or, Bool.true_or, Bool.or_false, Bool.or_true, Bool.not_false, Bool.not_true, Bool.true_and, Bool.false_and, Bool.and_true, Bool.and_false, reduceCtorEq]) <;> (try omega)]; rw [List.length_append]; exact hL⟩)
      · have k28 := j_ne_f (a := r.length) (b := 256) (by omega) (by omega) c28
        refine e_aload_n 32 dX14_hears_31 rfl rfl ?_
        refine e_iconst 33 (v := (nI 1)) dX14_hears_32 rfl (by decide) ?_
        refine p_put 36 hL 0 (fs' := .ref a :: .int (nI r.length) :: .int (nI q) :: .int (nI 1) :: .int (bI ov) :: xs) (L' := [pt s (.inr (10, .ref a :: .int (nI r.length) :: .int (nI q) :: .int (nI 1) :: .int (bI ov) :: xs)), iar a 256 r]) rfl rfl dX14_hears_33 rfl fp_X14_20_10 (Or.inl rfl) (Nat.le_of_ble_eq_true rfl) (by decide) rfl rfl (fun h hL => ?_)
        refine e_aload_n 37 dX14_hears_36 rfl rfl ?_
        refine e_iconst 38 (v := (nI 1)) dX14_hears_37 rfl (by decide) ?_
        refine p_put 41 hL 0 (fs' := .ref a :: .int (nI r.length) :: .int (nI q) :: .int (nI 1) :: .int (nI 1) :: xs) (L' := [pt s (.inr (10, .ref a :: .int (nI r.length) :: .int (nI q) :: .int (nI 1) :: .int (nI 1) :: xs)), iar a 256 r]) rfl rfl dX14_hears_38 rfl fp_X14_24_10 (Or.inl rfl) (Nat.le_of_ble_eq_true rfl) (by decide) rfl rfl (fun h hL => ?_)
        refine e_goto 64 dX14_hears_41 rfl ?_
        refine e_aload_n 65 dX14_hears_64 rfl rfl ?_
        refine e_iconst 66 (v := (nI 0)) dX14_hears_65 rfl (by decide) ?_
        refine p_put 69 hL 0 (fs' := .ref a :: .int (nI r.length) :: .int (nI 0) :: .int (nI 1) :: .int (nI 1) :: xs) (L' := [pt s (.inr (10, .ref a :: .int (nI r.length) :: .int (nI 0) :: .int (nI 1) :: .int (nI 1) :: xs)), iar a 256 r]) rfl rfl dX14_hears_66 rfl fp_X14_13_10 (Or.inl rfl) (Nat.le_of_ble_eq_true rfl) rfl rfl rfl (fun h hL => ?_)
        exact e_vret dX14_hears_69 rfl (by omega) (by omega) (⟨_, ⟨rfl, rfl⟩, by rw [show hrR r b = r by simp only [hrR]; exact if_neg (by omega), show hrS r q sp = true by unfold hrS; cases sp <;> (try simp only [Bool.and_eq_true, Bool.or_eq_true, Bool.not_eq_true', Bool.and_eq_false_iff, Bool.or_eq_false_iff, Bool.not_eq_false', decide_eq_true_eq, decide_eq_false_iff_not, Bool.false_or, Bool.true_or, Bool.or_false, Bool.or_true, Bool.not_false, Bool.not_true, Bool.true_and, Bool.false_and, Bool.and_true, Bool.and_false, reduceCtorEq]) <;> (try omega), show hrO r ov = true by unfold hrO; cases ov <;> (try simp only [Bool.and_eq_true, Bool.or_eq_true, Bool.not_eq_true', Bool.and_eq_false_iff, Bool.or_eq_false_iff, Bool.not_eq_false', decide_eq_true_eq, decide_eq_false_iff_not, Bool.false_or, Bool.true_or, Bool.or_false, Bool.or_true, Bool.not_false, Bool.not_true, Bool.true_and, Bool.false_and, Bool.and_true, Bool.and_false, reduceCtorEq]) <;> (try omega)]; exact hL⟩)
set_option maxRecDepth 20000 in
set_option maxHeartbeats 2000000 in
theorem k_X14_isGoodD {s a q : Nat} {r : List Nat} {sp ov : Bool} {xs : List Value} (hb : ∀ x ∈ r, x < 65536) : CA mX14_isGood [.ref s] [pt s (.inr (10, .ref a :: .int (nI r.length) :: .int (nI q) :: .int (bI sp) :: .int (bI ov) :: xs)), iar a 256 r] (fun x K => x = some (.int (bI (goodF r sp))) ∧ K = [pt s (.inr (10, .ref a :: .int (nI r.length) :: .int (nI q) :: .int (bI sp) :: .int (bI ov) :: xs)), iar a 256 r]) 1 26 0 0 := by
  refine CA.mk 0 (ls := [some (.ref s)]) rfl rfl (Nat.le_of_ble_eq_true rfl) rfl (fun h hL => ?_)
  have hlen := iar_le _ 1 hL rfl
  have b1 := gd_lt (i := r.length - 2) hb (by decide)
  have b2 := gd_lt (i := r.length - 1) hb (by decide)
  have b3 : crs (r.take (r.length - 2)) < 65536 := crs_lt (fun x hx => hb x (List.mem_of_mem_take hx))
  refine e_aload_n 1 dX14_isGood_0 rfl rfl ?_
  refine e_get 4 dX14_isGood_1 rfl fl_X14_20_10 (stars_at _ 0 hL rfl) rfl ?_
  refine e_if_ne 62 7 dX14_isGood_4 rfl rfl (fun c4 => ?_) (fun c4 => ?_)
  · have k4 := jb_ne_t c4
    refine e_iconst 63 (v := (nI 0)) dX14_isGood_62 rfl (by decide) ?_
    exact e_zret dX14_isGood_63 rfl (Or.inl (by decide)) (by omega) (by omega) (⟨_, ⟨by rw [show goodF r sp = false by unfold goodF; rw [k4]; rfl]; rfl, rfl⟩, hL⟩)
  · have k4 := jb_ne_f c4
    refine e_aload_n 8 dX14_isGood_7 rfl rfl ?_
    refine e_get 11 dX14_isGood_8 rfl fl_X14_17_10 (stars_at _ 0 hL rfl) rfl ?_
    refine e_iconst 12 (v := (nI 4)) dX14_isGood_11 rfl (by decide) ?_
    refine e_icmp_lt 62 15 dX14_isGood_12 rfl rfl (fun c12 => ?_) (fun c12 => ?_)
    · have k12 := j_lt_t (a := r.length) (b := 4) (by omega) (by omega) c12
      refine e_iconst 63 (v := (nI 0)) dX14_isGood_62 rfl (by decide) ?_
      exact e_zret dX14_isGood_63 rfl (Or.inl (by decide)) (by omega) (by omega) (⟨_, ⟨by rw [show goodF r sp = false by unfold goodF; rw [k4]; (try simp only [Bool.and_eq_true, Bool.or_eq_true, Bool.not_eq_true', Bool.and_eq_false_iff, Bool.or_eq_false_iff, Bool.not_eq_false', decide_eq_true_eq, decide_eq_false_iff_not, Bool.false_or, Bool.true_or, Bool.or_false, Bool.or_true, Bool.not_false, Bool.not_true, Bool.true_and, Bool.false_and, Bool.and_true, Bool.and_false, reduceCtorEq]) <;> (try omega)]; rfl, rfl⟩, hL⟩)
    · have k12 := j_lt_f (a := r.length) (b := 4) (by omega) (by omega) c12
      refine e_aload_n 16 dX14_isGood_15 rfl rfl ?_
      refine e_get 19 dX14_isGood_16 rfl fl_X14_7_10 (stars_at _ 0 hL rfl) rfl ?_
      refine e_aload_n 20 dX14_isGood_19 rfl rfl ?_
      refine e_get 23 dX14_isGood_20 rfl fl_X14_17_10 (stars_at _ 0 hL rfl) rfl ?_
      refine e_iconst 24 (v := (nI 2)) dX14_isGood_23 rfl (by decide) ?_
      refine e_isub 25 (v := (nI (r.length - 2))) dX14_isGood_24 rfl (pk_sub (by omega)) ?_
      refine p_callS 28 hL [1, 0] 2 rfl (by decide) (L1 := [iar a 256 r]) (L2 := [pt s (.inr (10, .ref a :: .int (nI r.length) :: .int (nI q) :: .int (bI sp) :: .int (bI ov) :: xs))]) rfl dX14_isGood_25 rfl cs_X14_27 (k_X15_sumOf (by omega) hb (by decide)) rfl rfl (Nat.le_of_ble_eq_true rfl) ⟨by decide, by omega, by omega⟩ (fun r1 L1 h q hL => ?_)
      obtain ⟨rfl, rfl⟩ := q
      have hL : stars [iar a 256 r, pt s (.inr (10, .ref a :: .int (nI r.length) :: .int (nI q) :: .int (bI sp) :: .int (bI ov) :: xs))] h := hL
      have hL : stars [pt s (.inr (10, .ref a :: .int (nI r.length) :: .int (nI q) :: .int (bI sp) :: .int (bI ov) :: xs)), iar a 256 r] h := stars_ixn hL 2 rfl [1, 0] (by decide) rfl
      refine e_aload_n 29 dX14_isGood_28 rfl rfl ?_
      refine e_get 32 dX14_isGood_29 rfl fl_X14_7_10 (stars_at _ 0 hL rfl) rfl ?_
      refine e_aload_n 33 dX14_isGood_32 rfl rfl ?_
      refine e_get 36 dX14_isGood_33 rfl fl_X14_17_10 (stars_at _ 0 hL rfl) rfl ?_
      refine e_iconst 37 (v := (nI 2)) dX14_isGood_36 rfl (by decide) ?_
      refine e_isub 38 (v := (nI (r.length - 2))) dX14_isGood_37 rfl (pk_sub (by omega)) ?_
      refine p_iald 39 hL 1 (r := r) (k := (r.length - 2)) rfl dX14_isGood_38 rfl (by omega) (by omega) ?_
      refine e_sipush 42 (v := (nI 256)) dX14_isGood_39 rfl (by decide) ?_
      refine e_aload_n 43 dX14_isGood_42 rfl rfl ?_
      refine e_get 46 dX14_isGood_43 rfl fl_X14_7_10 (stars_at _ 0 hL rfl) rfl ?_
      refine e_aload_n 47 dX14_isGood_46 rfl rfl ?_
      refine e_get 50 dX14_isGood_47 rfl fl_X14_17_10 (stars_at _ 0 hL rfl) rfl ?_
      refine e_iconst 51 (v := (nI 1)) dX14_isGood_50 rfl (by decide) ?_
      refine e_isub 52 (v := (nI (r.length - 1))) dX14_isGood_51 rfl (pk_sub (by omega)) ?_
      refine p_iald 53 hL 1 (r := r) (k := (r.length - 1)) rfl dX14_isGood_52 rfl (by omega) (by omega) ?_
      refine e_imul 54 (v := (nI (256 * (r.getD (r.length - 1) 0)))) dX14_isGood_53 rfl (pk_mul 256 (r.getD (r.length - 1) 0)) ?_
      refine e_iadd 55 (v := (nI ((r.getD (r.length - 2) 0) + (256 * (r.getD (r.length - 1) 0))))) dX14_isGood_54 rfl (nI_add (r.getD (r.length - 2) 0) (256 * (r.getD (r.length - 1) 0))) ?_
      refine e_icmp_ne 62 58 dX14_isGood_55 rfl rfl (fun c55 => ?_) (fun c55 => ?_)
      · have k55 := j_ne_t (a := (crs (r.take (r.length - 2)))) (b := ((r.getD (r.length - 2) 0) + (256 * (r.getD (r.length - 1) 0)))) (by omega) (by omega) c55
        refine e_iconst 63 (v := (nI 0)) dX14_isGood_62 rfl (by decide) ?_
        exact e_zret dX14_isGood_63 rfl (Or.inl (by decide)) (by omega) (by omega) (⟨_, ⟨by rw [show goodF r sp = false by unfold goodF; rw [k4]; (try simp only [Bool.and_eq_true, Bool.or_eq_true, Bool.not_eq_true', Bool.and_eq_false_iff, Bool.or_eq_false_iff, Bool.not_eq_false', decide_eq_true_eq, decide_eq_false_iff_not, Bool.false_or, Bool.true_or, Bool.or_false, Bool.or_true, Bool.not_false, Bool.not_true, Bool.true_and, Bool.false_and, Bool.and_true, Bool.and_false, reduceCtorEq]) <;> (try omega)]; rfl, rfl⟩, hL⟩)
      · have k55 := j_ne_f (a := (crs (r.take (r.length - 2)))) (b := ((r.getD (r.length - 2) 0) + (256 * (r.getD (r.length - 1) 0)))) (by omega) (by omega) c55
        refine e_iconst 59 (v := (nI 1)) dX14_isGood_58 rfl (by decide) ?_
        refine e_goto 63 dX14_isGood_59 rfl ?_
        exact e_zret dX14_isGood_63 rfl (Or.inr (by decide)) (by omega) (by omega) (⟨_, ⟨by rw [show goodF r sp = true by unfold goodF; rw [k4]; (try simp only [Bool.and_eq_true, Bool.or_eq_true, Bool.not_eq_true', Bool.and_eq_false_iff, Bool.or_eq_false_iff, Bool.not_eq_false', decide_eq_true_eq, decide_eq_false_iff_not, Bool.false_or, Bool.true_or, Bool.or_false, Bool.or_true, Bool.not_false, Bool.not_true, Bool.true_and, Bool.false_and, Bool.and_true, Bool.and_false, reduceCtorEq]) <;> (try omega)]; rfl, rfl⟩, hL⟩)
set_option maxRecDepth 20000 in
set_option maxHeartbeats 2000000 in
theorem k_X14_emptiesD {s a q : Nat} {r : List Nat} {sp ov : Bool} {xs : List Value} : CA mX14_empties [.ref s] [pt s (.inr (10, .ref a :: .int (nI r.length) :: .int (nI q) :: .int (bI sp) :: .int (bI ov) :: xs)), iar a 256 r] (fun x K => x = none ∧ K = [pt s (.inr (10, .ref a :: .int (nI 0) :: .int (nI q) :: .int (bI false) :: .int (bI false) :: xs)), iar a 256 ([])]) 0 0 0 0 := by
  refine CA.mk 0 (ls := [some (.ref s)]) rfl rfl (Nat.le_of_ble_eq_true rfl) rfl (fun h hL => ?_)
  refine e_aload_n 1 dX14_empties_0 rfl rfl ?_
  refine e_iconst 2 (v := (nI 0)) dX14_empties_1 rfl (by decide) ?_
  refine p_put 5 hL 0 (fs' := .ref a :: .int (nI 0) :: .int (nI q) :: .int (bI sp) :: .int (bI ov) :: xs) (L' := [pt s (.inr (10, .ref a :: .int (nI 0) :: .int (nI q) :: .int (bI sp) :: .int (bI ov) :: xs)), iar a 256 r]) rfl rfl dX14_empties_2 rfl fp_X14_17_10 (Or.inl rfl) (Nat.le_of_ble_eq_true rfl) rfl rfl rfl (fun h hL => ?_)
  refine e_aload_n 6 dX14_empties_5 rfl rfl ?_
  refine e_iconst 7 (v := (nI 0)) dX14_empties_6 rfl (by decide) ?_
  refine p_put 10 hL 0 (fs' := .ref a :: .int (nI 0) :: .int (nI q) :: .int (nI 0) :: .int (bI ov) :: xs) (L' := [pt s (.inr (10, .ref a :: .int (nI 0) :: .int (nI q) :: .int (nI 0) :: .int (bI ov) :: xs)), iar a 256 r]) rfl rfl dX14_empties_7 rfl fp_X14_20_10 (Or.inl rfl) (Nat.le_of_ble_eq_true rfl) (by decide) rfl rfl (fun h hL => ?_)
  refine e_aload_n 11 dX14_empties_10 rfl rfl ?_
  refine e_iconst 12 (v := (nI 0)) dX14_empties_11 rfl (by decide) ?_
  refine p_put 15 hL 0 (fs' := .ref a :: .int (nI 0) :: .int (nI q) :: .int (nI 0) :: .int (nI 0) :: xs) (L' := [pt s (.inr (10, .ref a :: .int (nI 0) :: .int (nI q) :: .int (nI 0) :: .int (nI 0) :: xs)), iar a 256 r]) rfl rfl dX14_empties_12 rfl fp_X14_24_10 (Or.inl rfl) (Nat.le_of_ble_eq_true rfl) (by decide) rfl rfl (fun h hL => ?_)
  exact e_vret dX14_empties_15 rfl (by omega) (by omega) (⟨_, ⟨rfl, rfl⟩, iar_em 1 hL rfl rfl⟩)
