/-! the reference: refusal -/
def rfA (s : DS) (q : List Nat) : Nat := if shF q ≠ 0 then shF q else fhF (dF s) (dL s) (dM s) (s.1 8) (dS s) q
theorem cuF_03 (b : Bool) : cuF b = 0 ∨ cuF b = 3 := by cases b <;> simp [cuF]
theorem ite03 {p : Prop} [Decidable p] {a b : Nat} (ha : p → a = 0 ∨ a = 3) (hb : ¬ p → b = 0 ∨ b = 3) : (if p then a else b) = 0 ∨ (if p then a else b) = 3 := by
  by_cases h : p
  · rw [if_pos h]; exact ha h
  · rw [if_neg h]; exact hb h
theorem sh_03 {q : List Nat} (ht : (1 ≤ q.getD 0 0 ∧ q.getD 0 0 ≤ 8) ∨ q.getD 0 0 = 11 ∨ q.getD 0 0 = 12 ∨ (15 ≤ q.getD 0 0 ∧ q.getD 0 0 ≤ 17) ∨ (20 ≤ q.getD 0 0 ∧ q.getD 0 0 ≤ 24) ∨ q.getD 0 0 = 43) (h8 : q.getD 0 0 ≠ 8) (h43 : q.getD 0 0 = 43 → 1 < q.length → q.getD 1 0 = 14) : shF q = 0 ∨ shF q = 3 := by
  rw [shF]
  refine ite03 (fun z => ite03 (fun _ => Or.inl rfl) (fun _ => Or.inr rfl)) (fun z1 => ?_)
  refine ite03 (fun z => ite03 (fun _ => Or.inl rfl) (fun _ => Or.inr rfl)) (fun z3 => ?_)
  refine ite03 (fun z => ite03 (fun _ => Or.inl rfl) (fun _ => Or.inr rfl)) (fun z5 => ?_)
  refine ite03 (fun z => ite03 (fun _ => Or.inl rfl) (fun _ => Or.inr rfl)) (fun z7 => ?_)
  refine ite03 (fun z => absurd z (by omega)) (fun z8 => ?_)
  refine ite03 (fun z => ite03 (fun _ => Or.inl rfl) (fun _ => Or.inr rfl)) (fun z15 => ?_)
  refine ite03 (fun z => ite03 (fun _ => Or.inl rfl) (fun _ => Or.inr rfl)) (fun z16 => ?_)
  refine ite03 (fun z => cuF_03 _) (fun z20 => ?_)
  refine ite03 (fun z => cuF_03 _) (fun z21 => ?_)
  refine ite03 (fun z => ite03 (fun _ => Or.inl rfl) (fun _ => Or.inr rfl)) (fun z22 => ?_)
  refine ite03 (fun z => ite03 (fun _ => Or.inl rfl) (fun _ => Or.inr rfl)) (fun z23 => ?_)
  refine ite03 (fun z => ite03 (fun _ => Or.inl rfl) (fun _ => Or.inr rfl)) (fun z24 => ?_)
  refine ite03 (fun z => by (rw [txF]; exact ite03 (fun _ => Or.inr rfl) (fun _ => ite03 (fun y => absurd (h43 z (by omega)) y) (fun _ => ite03 (fun _ => Or.inl rfl) (fun _ => Or.inr rfl))))) (fun z43 => ?_)
  exfalso; omega
theorem rfA_8 {s : DS} {q : List Nat} (h : q.getD 0 0 = 8) : rfA s q = r8F q := by
  have e1 : shF q = dgF q := by rw [shF, if_neg (by omega), if_neg (by omega), if_neg (by omega), if_neg (by omega), if_pos (by omega)]
  have e2 : fhF (dF s) (dL s) (dM s) (s.1 8) (dS s) q = sdF q := by rw [fhF, if_neg (by omega), if_neg (by omega), if_neg (by omega), if_neg (by omega), if_neg (by omega), if_neg (by omega), if_pos (by omega)]
  rw [rfA, e1, e2, r8F]
  by_cases z : dgF q = 0
  · rw [if_neg (fun y => y z), if_pos z]
  · rw [if_pos z, if_neg z]
theorem all1 {P : Nat → Bool} {b : Bool} (h : P 0 = b) : (List.range 1).all P = b := by
  rw [show List.range 1 = [0] from rfl, List.all_cons, List.all_nil, Bool.and_true]; exact h
theorem sh_43 {q : List Nat} (h0 : q.getD 0 0 = 43) (h : shF q = 0) : q.length = 4 ∧ q.getD 1 0 = 14 ∧ 1 ≤ q.getD 2 0 ∧ q.getD 2 0 ≤ 4 := by
  rw [shF, if_neg (by omega), if_neg (by omega), if_neg (by omega), if_neg (by omega), if_neg (by omega), if_neg (by omega), if_neg (by omega), if_neg (by omega), if_neg (by omega), if_neg (by omega), if_neg (by omega), if_neg (by omega), if_pos (by omega), txF] at h
  revert h
  (repeat' split) <;> intro h <;> omega
theorem sh_p {q : List Nat} (h0 : q.getD 0 0 = 20 ∨ q.getD 0 0 = 21) (h : shF q = 0) : (q.getD 0 0 = 20 ∧ (q.length - 2) % 7 = 0 ∧ 2 ≤ q.length) ∨ (q.getD 0 0 = 21 ∧ wpE q 36 2 = q.length) := by
  rcases h0 with z | z
  · have h1 := sh_rd z h
    unfold rdP at h1
    have h2 := of_decide_eq_true h1
    exact Or.inl ⟨z, by omega, by omega⟩
  · have h1 := sh_wr z h
    unfold wrP at h1
    have h2 := of_decide_eq_true h1
    exact Or.inr ⟨z, h2.2.2.2.2⟩
theorem plZ_1 {s : DS} {k a : Nat} (h : plZ s k a 1 = true) : dF s k ≤ a ∧ a < dF s k + (dL s k).length := by
  unfold plZ at h
  have := of_decide_eq_true h
  omega
set_option maxRecDepth 20000 in
set_option maxHeartbeats 2000000 in
theorem u_X15_refusal {d a qn : Nat} {q : List Nat} {s : DS} {h : eH} (hv : rdV d s h) (he : okE s) (hok : okD s) (hR : iaR a qn q h) (hqn : qn < 100000) (hq : ∀ x ∈ q, x < 256) (h1 : 1 ≤ q.length) (hl9 : q.length ≤ 253) : PC mX15_refusal [.ref d, .ref a, .int (nI q.length)] h (some (.int (nI (rfA s q)))) 3 67 := by
  have hv9 := hv
  obtain ⟨A, v0, v1, v2, v3, v4, v5, v6, v7, v8, v9, v10, v11, v12, v13, v14, v15, v16, v17, v18, v19, v20, v21⟩ := hv9
  have hle := hR.le
  have h8 := okD_8 hok
  have hsh := okE_sh he
  have hs0 := shO_le hsh.2.1
  have hs2 := shO_le hsh.2.2
  refine PC.mk 2 (ls := [some (.ref d), some (.ref a), some (.int (nI q.length)), none, none]) rfl rfl (Nat.le_of_ble_eq_true rfl) rfl ?_
  refine e_aload_n 1 dX15_refusal_0 rfl rfl ?_
  refine e_iconst 2 (v := (nI 0)) dX15_refusal_1 rfl (by decide) ?_
  have b2 := gd_lt (i := 0) hq (by decide)
  refine v_iald 3 hR (k := 0) (x := (q.getD 0 0)) dX15_refusal_2 rfl (by omega) (by omega) rfl ?_
  refine e_istore_n 4 (ls' := [some (.ref d), some (.ref a), some (.int (nI q.length)), some (.int (nI (q.getD 0 0))), none]) dX15_refusal_3 rfl (by decide) rfl ?_
  refine e_iload_n 5 dX15_refusal_4 rfl rfl ?_
  refine u_callS 8 dX15_refusal_5 rfl cs_X15_96 (u_X15_isTold (by omega)) rfl rfl (Nat.le_of_ble_eq_true rfl) (by decide) ⟨by omega, by omega⟩ ?_
  refine e_if_ne 13 11 dX15_refusal_8 rfl rfl (fun c8 => ?_) (fun c8 => ?_)
  · have k8 := jb_ne_t c8
    have t8 : (1 ≤ q.getD 0 0 ∧ q.getD 0 0 ≤ 8) ∨ q.getD 0 0 = 11 ∨ q.getD 0 0 = 12 ∨ (15 ≤ q.getD 0 0 ∧ q.getD 0 0 ≤ 17) ∨ (20 ≤ q.getD 0 0 ∧ q.getD 0 0 ≤ 24) ∨ q.getD 0 0 = 43 := of_decide_eq_true k8
    refine e_iload_n 14 dX15_refusal_13 rfl rfl ?_
    refine e_bipush 16 (v := (nI 8)) dX15_refusal_14 rfl (by decide) ?_
    refine e_icmp_ne 25 19 dX15_refusal_16 rfl rfl (fun c16 => ?_) (fun c16 => ?_)
    · have k16 := j_ne_t (a := (q.getD 0 0)) (b := 8) (by omega) (by omega) c16
      refine e_iload_n 26 dX15_refusal_25 rfl rfl ?_
      refine e_bipush 28 (v := (nI 43)) dX15_refusal_26 rfl (by decide) ?_
      refine e_icmp_ne 46 31 dX15_refusal_28 rfl rfl (fun c28 => ?_) (fun c28 => ?_)
      · have k28 := j_ne_t (a := (q.getD 0 0)) (b := 43) (by omega) (by omega) c28
        refine e_aload_n 47 dX15_refusal_46 rfl rfl ?_
        refine e_iload_n 48 dX15_refusal_47 rfl rfl ?_
        refine u_callS 51 dX15_refusal_48 rfl cs_X15_103 (u_X15_isShaped hR hqn hq h1) rfl rfl (Nat.le_of_ble_eq_true rfl) (by decide) ⟨by omega, by omega⟩ ?_
        refine e_if_ne 56 54 dX15_refusal_51 rfl rfl (fun c51 => ?_) (fun c51 => ?_)
        · have k51 := jb_ne_t c51
          have h51 : shF q = 0 := of_decide_eq_true k51
          refine e_iload_n 57 dX15_refusal_56 rfl rfl ?_
          rcases (show ((q.getD 0 0) < 1 ∨ 43 < (q.getD 0 0)) ∨ ((q.getD 0 0) = 1 ∨ (q.getD 0 0) = 2 ∨ (q.getD 0 0) = 3 ∨ (q.getD 0 0) = 4) ∨ ((q.getD 0 0) = 5) ∨ ((q.getD 0 0) = 6) ∨ ((q.getD 0 0) = 7 ∨ (q.getD 0 0) = 8 ∨ (q.getD 0 0) = 9 ∨ (q.getD 0 0) = 10 ∨ (q.getD 0 0) = 11 ∨ (q.getD 0 0) = 12 ∨ (q.getD 0 0) = 13 ∨ (q.getD 0 0) = 14 ∨ (q.getD 0 0) = 17 ∨ (q.getD 0 0) = 18 ∨ (q.getD 0 0) = 19 ∨ (q.getD 0 0) = 25 ∨ (q.getD 0 0) = 26 ∨ (q.getD 0 0) = 27 ∨ (q.getD 0 0) = 28 ∨ (q.getD 0 0) = 29 ∨ (q.getD 0 0) = 30 ∨ (q.getD 0 0) = 31 ∨ (q.getD 0 0) = 32 ∨ (q.getD 0 0) = 33 ∨ (q.getD 0 0) = 34 ∨ (q.getD 0 0) = 35 ∨ (q.getD 0 0) = 36 ∨ (q.getD 0 0) = 37 ∨ (q.getD 0 0) = 38 ∨ (q.getD 0 0) = 39 ∨ (q.getD 0 0) = 40 ∨ (q.getD 0 0) = 41 ∨ (q.getD 0 0) = 42) ∨ ((q.getD 0 0) = 15) ∨ ((q.getD 0 0) = 16) ∨ ((q.getD 0 0) = 20 ∨ (q.getD 0 0) = 21) ∨ ((q.getD 0 0) = 22) ∨ ((q.getD 0 0) = 23) ∨ ((q.getD 0 0) = 24) ∨ ((q.getD 0 0) = 43) by omega) with s57 | s57 | s57 | s57 | s57 | s57 | s57 | s57 | s57 | s57 | s57 | s57
          · refine e_tableOut 627 dX15_refusal_57 (by rw [nI_toInt (by omega)]; omega) rfl ?_
            refine e_iconst 628 (v := (nI 0)) dX15_refusal_627 rfl (by decide) ?_
            exact e_iret dX15_refusal_628 rfl (by omega) (by omega) (⟨by rw [show rfA s q = 0 by (rw [rfA, if_neg (fun z => z h51), fhF, if_neg (by omega), if_neg (by omega), if_neg (by omega), if_neg (by omega), if_neg (by omega), if_neg (by omega), if_neg (by omega), if_neg (by omega), if_neg (by omega), if_neg (by omega), if_neg (by omega), if_neg (by omega), if_neg (by omega)])], rfl⟩)
          · refine e_tableIn 244 (off := 187) dX15_refusal_57 (by rw [nI_toInt (by omega)]; omega) (by rw [nI_toInt (by omega)]; omega) (by rcases s57 with s57 | s57 | s57 | s57 <;> rw [s57] <;> decide) rfl ?_
            refine e_aload_n 245 dX15_refusal_244 rfl rfl ?_
            refine e_iload_n 246 dX15_refusal_245 rfl rfl ?_
            refine e_iconst 247 (v := (nI 1)) dX15_refusal_246 rfl (by decide) ?_
            refine e_icmp_ne 254 250 dX15_refusal_247 rfl rfl (fun c247 => ?_) (fun c247 => ?_)
            · have k247 := j_ne_t (a := (q.getD 0 0)) (b := 1) (by omega) (by omega) c247
              refine e_iload_n 255 dX15_refusal_254 rfl rfl ?_
              refine e_iconst 256 (v := (nI 2)) dX15_refusal_255 rfl (by decide) ?_
              refine e_icmp_ne 263 259 dX15_refusal_256 rfl rfl (fun c256 => ?_) (fun c256 => ?_)
              · have k256 := j_ne_t (a := (q.getD 0 0)) (b := 2) (by omega) (by omega) c256
                refine e_iload_n 264 dX15_refusal_263 rfl rfl ?_
                refine e_iconst 265 (v := (nI 3)) dX15_refusal_264 rfl (by decide) ?_
                refine e_icmp_ne 272 268 dX15_refusal_265 rfl rfl (fun c265 => ?_) (fun c265 => ?_)
                · have k265 := j_ne_t (a := (q.getD 0 0)) (b := 3) (by omega) (by omega) c265
                  refine e_iconst 273 (v := (nI 3)) dX15_refusal_272 rfl (by decide) ?_
                  have g9 := sh_3 (q := q) (by omega) h51
                  refine e_aload_n 274 dX15_refusal_273 rfl rfl ?_
                  refine e_iconst 275 (v := (nI 1)) dX15_refusal_274 rfl (by decide) ?_
                  refine u_callS 278 dX15_refusal_275 rfl cs_X15_85 (u_X15_two hR (k := 1) (by omega) (by omega)) rfl rfl (Nat.le_of_ble_eq_true rfl) (by decide) ⟨by omega, by omega⟩ ?_
                  have w275 := wd_lt (k := 1) hq
                  refine e_aload_n 279 dX15_refusal_278 rfl rfl ?_
                  refine e_iconst 280 (v := (nI 3)) dX15_refusal_279 rfl (by decide) ?_
                  refine u_callS 283 dX15_refusal_280 rfl cs_X15_85 (u_X15_two hR (k := 3) (by omega) (by omega)) rfl rfl (Nat.le_of_ble_eq_true rfl) (by decide) ⟨by omega, by omega⟩ ?_
                  have w280 := wd_lt (k := 3) hq
                  refine u_callV 286 dX15_refusal_283 rfl cv_X15_107 v0 (u_X12_has hv he (by decide) (by omega) (by omega)) rfl rfl (Nat.le_of_ble_eq_true rfl) (by decide) ⟨by omega, by omega⟩ ?_
                  refine e_if_eq 293 289 dX15_refusal_286 rfl rfl (fun c286 => ?_) (fun c286 => ?_)
                  · have k286 := jb_eq_t c286
                    refine e_iconst 294 (v := (nI 2)) dX15_refusal_293 rfl (by decide) ?_
                    exact e_iret dX15_refusal_294 rfl (by omega) (by omega) (⟨by rw [show rfA s q = 2 by (rw [rfA, if_neg (fun z => z h51), fhF, if_neg (by omega), if_neg (by omega), if_neg (by omega), if_pos (by omega)]; rw [← plZ_plI (s := s) (k := 3) (a := wd q 1) (m := wd q 3) (by omega) (by omega), k286] <;> rfl)], rfl⟩)
                  · have k286 := jb_eq_f c286
                    refine e_iconst 290 (v := (nI 0)) dX15_refusal_289 rfl (by decide) ?_
                    refine e_goto 294 dX15_refusal_290 rfl ?_
                    exact e_iret dX15_refusal_294 rfl (by omega) (by omega) (⟨by rw [show rfA s q = 0 by (rw [rfA, if_neg (fun z => z h51), fhF, if_neg (by omega), if_neg (by omega), if_neg (by omega), if_pos (by omega)]; rw [← plZ_plI (s := s) (k := 3) (a := wd q 1) (m := wd q 3) (by omega) (by omega), k286] <;> rfl)], rfl⟩)
                · have k265 := j_ne_f (a := (q.getD 0 0)) (b := 3) (by omega) (by omega) c265
                  refine e_iconst 269 (v := (nI 2)) dX15_refusal_268 rfl (by decide) ?_
                  refine e_goto 273 dX15_refusal_269 rfl ?_
                  have g9 := sh_3 (q := q) (by omega) h51
                  refine e_aload_n 274 dX15_refusal_273 rfl rfl ?_
                  refine e_iconst 275 (v := (nI 1)) dX15_refusal_274 rfl (by decide) ?_
                  refine u_callS 278 dX15_refusal_275 rfl cs_X15_85 (u_X15_two hR (k := 1) (by omega) (by omega)) rfl rfl (Nat.le_of_ble_eq_true rfl) (by decide) ⟨by omega, by omega⟩ ?_
                  have w275 := wd_lt (k := 1) hq
                  refine e_aload_n 279 dX15_refusal_278 rfl rfl ?_
                  refine e_iconst 280 (v := (nI 3)) dX15_refusal_279 rfl (by decide) ?_
                  refine u_callS 283 dX15_refusal_280 rfl cs_X15_85 (u_X15_two hR (k := 3) (by omega) (by omega)) rfl rfl (Nat.le_of_ble_eq_true rfl) (by decide) ⟨by omega, by omega⟩ ?_
                  have w280 := wd_lt (k := 3) hq
                  refine u_callV 286 dX15_refusal_283 rfl cv_X15_107 v0 (u_X12_has hv he (by decide) (by omega) (by omega)) rfl rfl (Nat.le_of_ble_eq_true rfl) (by decide) ⟨by omega, by omega⟩ ?_
                  refine e_if_eq 293 289 dX15_refusal_286 rfl rfl (fun c286 => ?_) (fun c286 => ?_)
                  · have k286 := jb_eq_t c286
                    refine e_iconst 294 (v := (nI 2)) dX15_refusal_293 rfl (by decide) ?_
                    exact e_iret dX15_refusal_294 rfl (by omega) (by omega) (⟨by rw [show rfA s q = 2 by (rw [rfA, if_neg (fun z => z h51), fhF, if_neg (by omega), if_neg (by omega), if_pos (by omega)]; rw [← plZ_plI (s := s) (k := 2) (a := wd q 1) (m := wd q 3) (by omega) (by omega), k286] <;> rfl)], rfl⟩)
                  · have k286 := jb_eq_f c286
                    refine e_iconst 290 (v := (nI 0)) dX15_refusal_289 rfl (by decide) ?_
                    refine e_goto 294 dX15_refusal_290 rfl ?_
                    exact e_iret dX15_refusal_294 rfl (by omega) (by omega) (⟨by rw [show rfA s q = 0 by (rw [rfA, if_neg (fun z => z h51), fhF, if_neg (by omega), if_neg (by omega), if_pos (by omega)]; rw [← plZ_plI (s := s) (k := 2) (a := wd q 1) (m := wd q 3) (by omega) (by omega), k286] <;> rfl)], rfl⟩)
              · have k256 := j_ne_f (a := (q.getD 0 0)) (b := 2) (by omega) (by omega) c256
                refine e_iconst 260 (v := (nI 1)) dX15_refusal_259 rfl (by decide) ?_
                refine e_goto 273 dX15_refusal_260 rfl ?_
                have g9 := sh_1 (q := q) (by omega) h51
                refine e_aload_n 274 dX15_refusal_273 rfl rfl ?_
                refine e_iconst 275 (v := (nI 1)) dX15_refusal_274 rfl (by decide) ?_
                refine u_callS 278 dX15_refusal_275 rfl cs_X15_85 (u_X15_two hR (k := 1) (by omega) (by omega)) rfl rfl (Nat.le_of_ble_eq_true rfl) (by decide) ⟨by omega, by omega⟩ ?_
                have w275 := wd_lt (k := 1) hq
                refine e_aload_n 279 dX15_refusal_278 rfl rfl ?_
                refine e_iconst 280 (v := (nI 3)) dX15_refusal_279 rfl (by decide) ?_
                refine u_callS 283 dX15_refusal_280 rfl cs_X15_85 (u_X15_two hR (k := 3) (by omega) (by omega)) rfl rfl (Nat.le_of_ble_eq_true rfl) (by decide) ⟨by omega, by omega⟩ ?_
                have w280 := wd_lt (k := 3) hq
                refine u_callV 286 dX15_refusal_283 rfl cv_X15_107 v0 (u_X12_has hv he (by decide) (by omega) (by omega)) rfl rfl (Nat.le_of_ble_eq_true rfl) (by decide) ⟨by omega, by omega⟩ ?_
                refine e_if_eq 293 289 dX15_refusal_286 rfl rfl (fun c286 => ?_) (fun c286 => ?_)
                · have k286 := jb_eq_t c286
                  refine e_iconst 294 (v := (nI 2)) dX15_refusal_293 rfl (by decide) ?_
                  exact e_iret dX15_refusal_294 rfl (by omega) (by omega) (⟨by rw [show rfA s q = 2 by (rw [rfA, if_neg (fun z => z h51), fhF, if_neg (by omega), if_pos (by omega)]; rw [← plZ_plI (s := s) (k := 1) (a := wd q 1) (m := wd q 3) (by omega) (by omega), k286] <;> rfl)], rfl⟩)
                · have k286 := jb_eq_f c286
                  refine e_iconst 290 (v := (nI 0)) dX15_refusal_289 rfl (by decide) ?_
                  refine e_goto 294 dX15_refusal_290 rfl ?_
                  exact e_iret dX15_refusal_294 rfl (by omega) (by omega) (⟨by rw [show rfA s q = 0 by (rw [rfA, if_neg (fun z => z h51), fhF, if_neg (by omega), if_pos (by omega)]; rw [← plZ_plI (s := s) (k := 1) (a := wd q 1) (m := wd q 3) (by omega) (by omega), k286] <;> rfl)], rfl⟩)
            · have k247 := j_ne_f (a := (q.getD 0 0)) (b := 1) (by omega) (by omega) c247
              refine e_iconst 251 (v := (nI 0)) dX15_refusal_250 rfl (by decide) ?_
              refine e_goto 273 dX15_refusal_251 rfl ?_
              have g9 := sh_1 (q := q) (by omega) h51
              refine e_aload_n 274 dX15_refusal_273 rfl rfl ?_
              refine e_iconst 275 (v := (nI 1)) dX15_refusal_274 rfl (by decide) ?_
              refine u_callS 278 dX15_refusal_275 rfl cs_X15_85 (u_X15_two hR (k := 1) (by omega) (by omega)) rfl rfl (Nat.le_of_ble_eq_true rfl) (by decide) ⟨by omega, by omega⟩ ?_
              have w275 := wd_lt (k := 1) hq
              refine e_aload_n 279 dX15_refusal_278 rfl rfl ?_
              refine e_iconst 280 (v := (nI 3)) dX15_refusal_279 rfl (by decide) ?_
              refine u_callS 283 dX15_refusal_280 rfl cs_X15_85 (u_X15_two hR (k := 3) (by omega) (by omega)) rfl rfl (Nat.le_of_ble_eq_true rfl) (by decide) ⟨by omega, by omega⟩ ?_
              have w280 := wd_lt (k := 3) hq
              refine u_callV 286 dX15_refusal_283 rfl cv_X15_107 v0 (u_X12_has hv he (by decide) (by omega) (by omega)) rfl rfl (Nat.le_of_ble_eq_true rfl) (by decide) ⟨by omega, by omega⟩ ?_
              refine e_if_eq 293 289 dX15_refusal_286 rfl rfl (fun c286 => ?_) (fun c286 => ?_)
              · have k286 := jb_eq_t c286
                refine e_iconst 294 (v := (nI 2)) dX15_refusal_293 rfl (by decide) ?_
                exact e_iret dX15_refusal_294 rfl (by omega) (by omega) (⟨by rw [show rfA s q = 2 by (rw [rfA, if_neg (fun z => z h51), fhF, if_pos (by omega)]; rw [← plZ_plI (s := s) (k := 0) (a := wd q 1) (m := wd q 3) (by omega) (by omega), k286] <;> rfl)], rfl⟩)
              · have k286 := jb_eq_f c286
                refine e_iconst 290 (v := (nI 0)) dX15_refusal_289 rfl (by decide) ?_
                refine e_goto 294 dX15_refusal_290 rfl ?_
                exact e_iret dX15_refusal_294 rfl (by omega) (by omega) (⟨by rw [show rfA s q = 0 by (rw [rfA, if_neg (fun z => z h51), fhF, if_pos (by omega)]; rw [← plZ_plI (s := s) (k := 0) (a := wd q 1) (m := wd q 3) (by omega) (by omega), k286] <;> rfl)], rfl⟩)
          · refine e_tableIn 295 (off := 238) dX15_refusal_57 (by rw [nI_toInt (by omega)]; omega) (by rw [nI_toInt (by omega)]; omega) (by rw [s57]; decide) rfl ?_
            have g9 := sh_5 (q := q) (by omega) h51
            refine e_aload_n 296 dX15_refusal_295 rfl rfl ?_
            refine e_iconst 297 (v := (nI 3)) dX15_refusal_296 rfl (by decide) ?_
            refine u_callS 300 dX15_refusal_297 rfl cs_X15_85 (u_X15_two hR (k := 3) (by omega) (by omega)) rfl rfl (Nat.le_of_ble_eq_true rfl) (by decide) ⟨by omega, by omega⟩ ?_
            have w297 := wd_lt (k := 3) hq
            refine e_if_eq 317 303 dX15_refusal_300 rfl rfl (fun c300 => ?_) (fun c300 => ?_)
            · have k300 := j_eq0_t (a := (wd q 3)) (by omega) c300
              refine e_aload_n 318 dX15_refusal_317 rfl rfl ?_
              refine e_iconst 319 (v := (nI 0)) dX15_refusal_318 rfl (by decide) ?_
              refine e_aload_n 320 dX15_refusal_319 rfl rfl ?_
              refine e_iconst 321 (v := (nI 1)) dX15_refusal_320 rfl (by decide) ?_
              refine u_callS 324 dX15_refusal_321 rfl cs_X15_85 (u_X15_two hR (k := 1) (by omega) (by omega)) rfl rfl (Nat.le_of_ble_eq_true rfl) (by decide) ⟨by omega, by omega⟩ ?_
              have w321 := wd_lt (k := 1) hq
              refine e_iconst 325 (v := (nI 1)) dX15_refusal_324 rfl (by decide) ?_
              refine u_callV 328 dX15_refusal_325 rfl cv_X15_107 v0 (u_X12_has hv he (by decide) (by omega) (by omega)) rfl rfl (Nat.le_of_ble_eq_true rfl) (by decide) ⟨by omega, by omega⟩ ?_
              refine e_if_eq 335 331 dX15_refusal_328 rfl rfl (fun c328 => ?_) (fun c328 => ?_)
              · have k328 := jb_eq_t c328
                refine e_iconst 336 (v := (nI 2)) dX15_refusal_335 rfl (by decide) ?_
                exact e_iret dX15_refusal_336 rfl (by omega) (by omega) (⟨by rw [show rfA s q = 2 by (rw [rfA, if_neg (fun z => z h51), fhF, if_neg (by omega), if_neg (by omega), if_neg (by omega), if_neg (by omega), if_pos (by omega)]; rw [if_neg (by omega), ← plZ_plI (s := s) (k := 0) (a := wd q 1) (m := 1) (by omega) (by omega), k328] <;> rfl)], rfl⟩)
              · have k328 := jb_eq_f c328
                refine e_iconst 332 (v := (nI 0)) dX15_refusal_331 rfl (by decide) ?_
                refine e_goto 336 dX15_refusal_332 rfl ?_
                exact e_iret dX15_refusal_336 rfl (by omega) (by omega) (⟨by rw [show rfA s q = 0 by (rw [rfA, if_neg (fun z => z h51), fhF, if_neg (by omega), if_neg (by omega), if_neg (by omega), if_neg (by omega), if_pos (by omega)]; rw [if_neg (by omega), ← plZ_plI (s := s) (k := 0) (a := wd q 1) (m := 1) (by omega) (by omega), k328] <;> rfl)], rfl⟩)
            · have k300 := j_eq0_f (a := (wd q 3)) (by omega) c300
              refine e_aload_n 304 dX15_refusal_303 rfl rfl ?_
              refine e_iconst 305 (v := (nI 3)) dX15_refusal_304 rfl (by decide) ?_
              refine u_callS 308 dX15_refusal_305 rfl cs_X15_85 (u_X15_two hR (k := 3) (by omega) (by omega)) rfl rfl (Nat.le_of_ble_eq_true rfl) (by decide) ⟨by omega, by omega⟩ ?_
              have w305 := wd_lt (k := 3) hq
              refine e_ldc 310 (v := (nI 65280)) dX15_refusal_308 rfl cn_X15_110 ?_
              refine e_icmp_eq 317 313 dX15_refusal_310 rfl rfl (fun c310 => ?_) (fun c310 => ?_)
              · have k310 := j_eq_t (a := (wd q 3)) (b := 65280) (by omega) (by omega) c310
                refine e_aload_n 318 dX15_refusal_317 rfl rfl ?_
                refine e_iconst 319 (v := (nI 0)) dX15_refusal_318 rfl (by decide) ?_
                refine e_aload_n 320 dX15_refusal_319 rfl rfl ?_
                refine e_iconst 321 (v := (nI 1)) dX15_refusal_320 rfl (by decide) ?_
                refine u_callS 324 dX15_refusal_321 rfl cs_X15_85 (u_X15_two hR (k := 1) (by omega) (by omega)) rfl rfl (Nat.le_of_ble_eq_true rfl) (by decide) ⟨by omega, by omega⟩ ?_
                have w321 := wd_lt (k := 1) hq
                refine e_iconst 325 (v := (nI 1)) dX15_refusal_324 rfl (by decide) ?_
                refine u_callV 328 dX15_refusal_325 rfl cv_X15_107 v0 (u_X12_has hv he (by decide) (by omega) (by omega)) rfl rfl (Nat.le_of_ble_eq_true rfl) (by decide) ⟨by omega, by omega⟩ ?_
                refine e_if_eq 335 331 dX15_refusal_328 rfl rfl (fun c328 => ?_) (fun c328 => ?_)
                · have k328 := jb_eq_t c328
                  refine e_iconst 336 (v := (nI 2)) dX15_refusal_335 rfl (by decide) ?_
                  exact e_iret dX15_refusal_336 rfl (by omega) (by omega) (⟨by rw [show rfA s q = 2 by (rw [rfA, if_neg (fun z => z h51), fhF, if_neg (by omega), if_neg (by omega), if_neg (by omega), if_neg (by omega), if_pos (by omega)]; rw [if_neg (by omega), ← plZ_plI (s := s) (k := 0) (a := wd q 1) (m := 1) (by omega) (by omega), k328] <;> rfl)], rfl⟩)
                · have k328 := jb_eq_f c328
                  refine e_iconst 332 (v := (nI 0)) dX15_refusal_331 rfl (by decide) ?_
                  refine e_goto 336 dX15_refusal_332 rfl ?_
                  exact e_iret dX15_refusal_336 rfl (by omega) (by omega) (⟨by rw [show rfA s q = 0 by (rw [rfA, if_neg (fun z => z h51), fhF, if_neg (by omega), if_neg (by omega), if_neg (by omega), if_neg (by omega), if_pos (by omega)]; rw [if_neg (by omega), ← plZ_plI (s := s) (k := 0) (a := wd q 1) (m := 1) (by omega) (by omega), k328] <;> rfl)], rfl⟩)
              · have k310 := j_eq_f (a := (wd q 3)) (b := 65280) (by omega) (by omega) c310
                refine e_iconst 314 (v := (nI 3)) dX15_refusal_313 rfl (by decide) ?_
                refine e_goto 336 dX15_refusal_314 rfl ?_
                exact e_iret dX15_refusal_336 rfl (by omega) (by omega) (⟨by rw [show rfA s q = 3 by (rw [rfA, if_neg (fun z => z h51), fhF, if_neg (by omega), if_neg (by omega), if_neg (by omega), if_neg (by omega), if_pos (by omega)]; exact if_pos ⟨by omega, by omega⟩)], rfl⟩)
          · refine e_tableIn 337 (off := 280) dX15_refusal_57 (by rw [nI_toInt (by omega)]; omega) (by rw [nI_toInt (by omega)]; omega) (by rw [s57]; decide) rfl ?_
            have g9 := sh_5 (q := q) (by omega) h51
            refine e_aload_n 338 dX15_refusal_337 rfl rfl ?_
            refine e_iconst 339 (v := (nI 2)) dX15_refusal_338 rfl (by decide) ?_
            refine e_aload_n 340 dX15_refusal_339 rfl rfl ?_
            refine e_iconst 341 (v := (nI 1)) dX15_refusal_340 rfl (by decide) ?_
            refine u_callS 344 dX15_refusal_341 rfl cs_X15_85 (u_X15_two hR (k := 1) (by omega) (by omega)) rfl rfl (Nat.le_of_ble_eq_true rfl) (by decide) ⟨by omega, by omega⟩ ?_
            have w341 := wd_lt (k := 1) hq
            refine e_iconst 345 (v := (nI 1)) dX15_refusal_344 rfl (by decide) ?_
            refine u_callV 348 dX15_refusal_345 rfl cv_X15_107 v0 (u_X12_has hv he (by decide) (by omega) (by omega)) rfl rfl (Nat.le_of_ble_eq_true rfl) (by decide) ⟨by omega, by omega⟩ ?_
            refine e_if_ne 355 351 dX15_refusal_348 rfl rfl (fun c348 => ?_) (fun c348 => ?_)
            · have k348 := jb_ne_t c348
              refine e_aload_n 356 dX15_refusal_355 rfl rfl ?_
              refine e_aload_n 357 dX15_refusal_356 rfl rfl ?_
              refine e_iconst 358 (v := (nI 1)) dX15_refusal_357 rfl (by decide) ?_
              refine u_callS 361 dX15_refusal_358 rfl cs_X15_85 (u_X15_two hR (k := 1) (by omega) (by omega)) rfl rfl (Nat.le_of_ble_eq_true rfl) (by decide) ⟨by omega, by omega⟩ ?_
              have w358 := wd_lt (k := 1) hq
              refine e_aload_n 362 dX15_refusal_361 rfl rfl ?_
              refine e_iconst 363 (v := (nI 3)) dX15_refusal_362 rfl (by decide) ?_
              refine u_callS 366 dX15_refusal_363 rfl cs_X15_85 (u_X15_two hR (k := 3) (by omega) (by omega)) rfl rfl (Nat.le_of_ble_eq_true rfl) (by decide) ⟨by omega, by omega⟩ ?_
              have w363 := wd_lt (k := 3) hq
              refine u_callV 369 dX15_refusal_366 rfl cv_X15_111 v0 (u_X12_may hv he h8 (by omega) (by omega)) rfl rfl (Nat.le_of_ble_eq_true rfl) (by decide) ⟨by omega, by omega⟩ ?_
              refine e_if_eq 376 372 dX15_refusal_369 rfl rfl (fun c369 => ?_) (fun c369 => ?_)
              · have k369 := jb_eq_t c369
                refine e_iconst 377 (v := (nI 3)) dX15_refusal_376 rfl (by decide) ?_
                exact e_iret dX15_refusal_377 rfl (by omega) (by omega) (⟨by rw [show rfA s q = 3 by (rw [rfA, if_neg (fun z => z h51), fhF, if_neg (by omega), if_neg (by omega), if_neg (by omega), if_neg (by omega), if_neg (by omega), if_pos (by omega)]; rw [rgF, ← plZ_plI (s := s) (k := 2) (a := wd q 1) (m := 1) (by omega) (by omega), k348, if_pos rfl, all1 (P := fun i => mbg (dM s) (s.1 8) (wd q 1 + i) (wd q (3 + 2 * i))) k369] <;> rfl)], rfl⟩)
              · have k369 := jb_eq_f c369
                refine e_iconst 373 (v := (nI 0)) dX15_refusal_372 rfl (by decide) ?_
                refine e_goto 377 dX15_refusal_373 rfl ?_
                exact e_iret dX15_refusal_377 rfl (by omega) (by omega) (⟨by rw [show rfA s q = 0 by (rw [rfA, if_neg (fun z => z h51), fhF, if_neg (by omega), if_neg (by omega), if_neg (by omega), if_neg (by omega), if_neg (by omega), if_pos (by omega)]; rw [rgF, ← plZ_plI (s := s) (k := 2) (a := wd q 1) (m := 1) (by omega) (by omega), k348, if_pos rfl, all1 (P := fun i => mbg (dM s) (s.1 8) (wd q 1 + i) (wd q (3 + 2 * i))) k369] <;> rfl)], rfl⟩)
            · have k348 := jb_ne_f c348
              refine e_iconst 352 (v := (nI 2)) dX15_refusal_351 rfl (by decide) ?_
              refine e_goto 377 dX15_refusal_352 rfl ?_
              exact e_iret dX15_refusal_377 rfl (by omega) (by omega) (⟨by rw [show rfA s q = 2 by (rw [rfA, if_neg (fun z => z h51), fhF, if_neg (by omega), if_neg (by omega), if_neg (by omega), if_neg (by omega), if_neg (by omega), if_pos (by omega)]; rw [rgF, ← plZ_plI (s := s) (k := 2) (a := wd q 1) (m := 1) (by omega) (by omega), k348] <;> rfl)], rfl⟩)
          · refine e_tableIn 627 (off := 570) dX15_refusal_57 (by rw [nI_toInt (by omega)]; omega) (by rw [nI_toInt (by omega)]; omega) (by rcases s57 with s57 | s57 | s57 | s57 | s57 | s57 | s57 | s57 | s57 | s57 | s57 | s57 | s57 | s57 | s57 | s57 | s57 | s57 | s57 | s57 | s57 | s57 | s57 | s57 | s57 | s57 | s57 | s57 | s57 <;> rw [s57] <;> decide) rfl ?_
            refine e_iconst 628 (v := (nI 0)) dX15_refusal_627 rfl (by decide) ?_
            exact e_iret dX15_refusal_628 rfl (by omega) (by omega) (⟨by rw [show rfA s q = 0 by (rw [rfA, if_neg (fun z => z h51), fhF, if_neg (by omega), if_neg (by omega), if_neg (by omega), if_neg (by omega), if_neg (by omega), if_neg (by omega), if_neg (by omega), if_neg (by omega), if_neg (by omega), if_neg (by omega), if_neg (by omega), if_neg (by omega), if_neg (by omega)])], rfl⟩)
          · refine e_tableIn 378 (off := 321) dX15_refusal_57 (by rw [nI_toInt (by omega)]; omega) (by rw [nI_toInt (by omega)]; omega) (by rw [s57]; decide) rfl ?_
            have g9 := sh_15 (q := q) (by omega) h51
            refine e_aload_n 379 dX15_refusal_378 rfl rfl ?_
            refine e_iconst 380 (v := (nI 0)) dX15_refusal_379 rfl (by decide) ?_
            refine e_aload_n 381 dX15_refusal_380 rfl rfl ?_
            refine e_iconst 382 (v := (nI 1)) dX15_refusal_381 rfl (by decide) ?_
            refine u_callS 385 dX15_refusal_382 rfl cs_X15_85 (u_X15_two hR (k := 1) (by omega) (by omega)) rfl rfl (Nat.le_of_ble_eq_true rfl) (by decide) ⟨by omega, by omega⟩ ?_
            have w382 := wd_lt (k := 1) hq
            refine e_aload_n 386 dX15_refusal_385 rfl rfl ?_
            refine e_iconst 387 (v := (nI 3)) dX15_refusal_386 rfl (by decide) ?_
            refine u_callS 390 dX15_refusal_387 rfl cs_X15_85 (u_X15_two hR (k := 3) (by omega) (by omega)) rfl rfl (Nat.le_of_ble_eq_true rfl) (by decide) ⟨by omega, by omega⟩ ?_
            have w387 := wd_lt (k := 3) hq
            refine u_callV 393 dX15_refusal_390 rfl cv_X15_107 v0 (u_X12_has hv he (by decide) (by omega) (by omega)) rfl rfl (Nat.le_of_ble_eq_true rfl) (by decide) ⟨by omega, by omega⟩ ?_
            refine e_if_eq 400 396 dX15_refusal_393 rfl rfl (fun c393 => ?_) (fun c393 => ?_)
            · have k393 := jb_eq_t c393
              refine e_iconst 401 (v := (nI 2)) dX15_refusal_400 rfl (by decide) ?_
              exact e_iret dX15_refusal_401 rfl (by omega) (by omega) (⟨by rw [show rfA s q = 2 by (rw [rfA, if_neg (fun z => z h51), fhF, if_pos (by omega)]; rw [← plZ_plI (s := s) (k := 0) (a := wd q 1) (m := wd q 3) (by omega) (by omega), k393] <;> rfl)], rfl⟩)
            · have k393 := jb_eq_f c393
              refine e_iconst 397 (v := (nI 0)) dX15_refusal_396 rfl (by decide) ?_
              refine e_goto 401 dX15_refusal_397 rfl ?_
              exact e_iret dX15_refusal_401 rfl (by omega) (by omega) (⟨by rw [show rfA s q = 0 by (rw [rfA, if_neg (fun z => z h51), fhF, if_pos (by omega)]; rw [← plZ_plI (s := s) (k := 0) (a := wd q 1) (m := wd q 3) (by omega) (by omega), k393] <;> rfl)], rfl⟩)
          · refine e_tableIn 402 (off := 345) dX15_refusal_57 (by rw [nI_toInt (by omega)]; omega) (by rw [nI_toInt (by omega)]; omega) (by rw [s57]; decide) rfl ?_
            have g9 := sh_16 (q := q) (by omega) h51
            refine e_aload_n 403 dX15_refusal_402 rfl rfl ?_
            refine e_iconst 404 (v := (nI 2)) dX15_refusal_403 rfl (by decide) ?_
            refine e_aload_n 405 dX15_refusal_404 rfl rfl ?_
            refine e_iconst 406 (v := (nI 1)) dX15_refusal_405 rfl (by decide) ?_
            refine u_callS 409 dX15_refusal_406 rfl cs_X15_85 (u_X15_two hR (k := 1) (by omega) (by omega)) rfl rfl (Nat.le_of_ble_eq_true rfl) (by decide) ⟨by omega, by omega⟩ ?_
            have w406 := wd_lt (k := 1) hq
            refine e_aload_n 410 dX15_refusal_409 rfl rfl ?_
            refine e_iconst 411 (v := (nI 3)) dX15_refusal_410 rfl (by decide) ?_
            refine u_callS 414 dX15_refusal_411 rfl cs_X15_85 (u_X15_two hR (k := 3) (by omega) (by omega)) rfl rfl (Nat.le_of_ble_eq_true rfl) (by decide) ⟨by omega, by omega⟩ ?_
            have w411 := wd_lt (k := 3) hq
            refine u_callV 417 dX15_refusal_414 rfl cv_X15_107 v0 (u_X12_has hv he (by decide) (by omega) (by omega)) rfl rfl (Nat.le_of_ble_eq_true rfl) (by decide) ⟨by omega, by omega⟩ ?_
            refine e_if_ne 424 420 dX15_refusal_417 rfl rfl (fun c417 => ?_) (fun c417 => ?_)
            · have k417 := jb_ne_t c417
              refine e_aload_n 425 dX15_refusal_424 rfl rfl ?_
              refine e_aload_n 426 dX15_refusal_425 rfl rfl ?_
              refine e_aload_n 427 dX15_refusal_426 rfl rfl ?_
              refine e_iconst 428 (v := (nI 1)) dX15_refusal_427 rfl (by decide) ?_
              refine u_callS 431 dX15_refusal_428 rfl cs_X15_85 (u_X15_two hR (k := 1) (by omega) (by omega)) rfl rfl (Nat.le_of_ble_eq_true rfl) (by decide) ⟨by omega, by omega⟩ ?_
              have w428 := wd_lt (k := 1) hq
              refine e_aload_n 432 dX15_refusal_431 rfl rfl ?_
              refine e_iconst 433 (v := (nI 3)) dX15_refusal_432 rfl (by decide) ?_
              refine u_callS 436 dX15_refusal_433 rfl cs_X15_85 (u_X15_two hR (k := 3) (by omega) (by omega)) rfl rfl (Nat.le_of_ble_eq_true rfl) (by decide) ⟨by omega, by omega⟩ ?_
              have w433 := wd_lt (k := 3) hq
              refine e_bipush 438 (v := (nI 6)) dX15_refusal_436 rfl (by decide) ?_
              refine u_callS 441 dX15_refusal_438 rfl cs_X15_115 (u_X15_mays hv he hok hR hqn hq h1 hl9 (by omega) (by omega) (by omega)) rfl rfl (Nat.le_of_ble_eq_true rfl) (by decide) ⟨by omega, by omega⟩ ?_
              refine e_if_eq 448 444 dX15_refusal_441 rfl rfl (fun c441 => ?_) (fun c441 => ?_)
              · have k441 := jb_eq_t c441
                refine e_iconst 449 (v := (nI 3)) dX15_refusal_448 rfl (by decide) ?_
                exact e_iret dX15_refusal_449 rfl (by omega) (by omega) (⟨by rw [show rfA s q = 3 by (rw [rfA, if_neg (fun z => z h51), fhF, if_neg (by omega), if_neg (by omega), if_neg (by omega), if_neg (by omega), if_neg (by omega), if_neg (by omega), if_neg (by omega), if_pos (by omega)]; rw [rgF, ← plZ_plI (s := s) (k := 2) (a := wd q 1) (m := wd q 3) (by omega) (by omega), k417, if_pos rfl, k441] <;> rfl)], rfl⟩)
              · have k441 := jb_eq_f c441
                refine e_iconst 445 (v := (nI 0)) dX15_refusal_444 rfl (by decide) ?_
                refine e_goto 449 dX15_refusal_445 rfl ?_
                exact e_iret dX15_refusal_449 rfl (by omega) (by omega) (⟨by rw [show rfA s q = 0 by (rw [rfA, if_neg (fun z => z h51), fhF, if_neg (by omega), if_neg (by omega), if_neg (by omega), if_neg (by omega), if_neg (by omega), if_neg (by omega), if_neg (by omega), if_pos (by omega)]; rw [rgF, ← plZ_plI (s := s) (k := 2) (a := wd q 1) (m := wd q 3) (by omega) (by omega), k417, if_pos rfl, k441] <;> rfl)], rfl⟩)
            · have k417 := jb_ne_f c417
              refine e_iconst 421 (v := (nI 2)) dX15_refusal_420 rfl (by decide) ?_
              refine e_goto 449 dX15_refusal_421 rfl ?_
              exact e_iret dX15_refusal_449 rfl (by omega) (by omega) (⟨by rw [show rfA s q = 2 by (rw [rfA, if_neg (fun z => z h51), fhF, if_neg (by omega), if_neg (by omega), if_neg (by omega), if_neg (by omega), if_neg (by omega), if_neg (by omega), if_neg (by omega), if_pos (by omega)]; rw [rgF, ← plZ_plI (s := s) (k := 2) (a := wd q 1) (m := wd q 3) (by omega) (by omega), k417] <;> rfl)], rfl⟩)
          · refine e_tableIn 450 (off := 393) dX15_refusal_57 (by rw [nI_toInt (by omega)]; omega) (by rw [nI_toInt (by omega)]; omega) (by rcases s57 with s57 | s57 <;> rw [s57] <;> decide) rfl ?_
            refine e_aload_n 451 dX15_refusal_450 rfl rfl ?_
            refine e_aload_n 452 dX15_refusal_451 rfl rfl ?_
            refine e_iload_n 453 dX15_refusal_452 rfl rfl ?_
            refine u_callS 456 dX15_refusal_453 rfl cs_X15_119 (u_X15_parts hv he hok hR hqn hq h1 hl9 (vb := (if q.getD 0 0 = 21 then 2 else 0)) ⟨fun z => if_pos z, fun z => if_neg z⟩ (sh_p (by omega) h51)) rfl rfl (Nat.le_of_ble_eq_true rfl) (by decide) ⟨by omega, by omega⟩ ?_
            exact e_iret dX15_refusal_456 rfl (by omega) (by omega) (⟨by rw [show rfA s q = (ffF (dS s 0) q (if q.getD 0 0 = 21 then 2 else 0) 36 2) by rw [rfA, if_neg (fun z => z h51), fhF, if_neg (by omega), if_neg (by omega), if_neg (by omega), if_neg (by omega), if_neg (by omega), if_neg (by omega), if_neg (by omega), if_neg (by omega), if_pos (by omega)]], rfl⟩)
          · refine e_tableIn 457 (off := 400) dX15_refusal_57 (by rw [nI_toInt (by omega)]; omega) (by rw [nI_toInt (by omega)]; omega) (by rw [s57]; decide) rfl ?_
            have g9 := sh_22 (q := q) (by omega) h51
            refine e_aload_n 458 dX15_refusal_457 rfl rfl ?_
            refine e_iconst 459 (v := (nI 2)) dX15_refusal_458 rfl (by decide) ?_
            refine e_aload_n 460 dX15_refusal_459 rfl rfl ?_
            refine e_iconst 461 (v := (nI 1)) dX15_refusal_460 rfl (by decide) ?_
            refine u_callS 464 dX15_refusal_461 rfl cs_X15_85 (u_X15_two hR (k := 1) (by omega) (by omega)) rfl rfl (Nat.le_of_ble_eq_true rfl) (by decide) ⟨by omega, by omega⟩ ?_
            have w461 := wd_lt (k := 1) hq
            refine e_iconst 465 (v := (nI 1)) dX15_refusal_464 rfl (by decide) ?_
            refine u_callV 468 dX15_refusal_465 rfl cv_X15_107 v0 (u_X12_has hv he (by decide) (by omega) (by omega)) rfl rfl (Nat.le_of_ble_eq_true rfl) (by decide) ⟨by omega, by omega⟩ ?_
            refine e_if_ne 475 471 dX15_refusal_468 rfl rfl (fun c468 => ?_) (fun c468 => ?_)
            · have k468 := jb_ne_t c468
              refine e_aload_n 476 dX15_refusal_475 rfl rfl ?_
              refine e_aload_n 477 dX15_refusal_476 rfl rfl ?_
              refine e_iconst 478 (v := (nI 1)) dX15_refusal_477 rfl (by decide) ?_
              refine u_callS 481 dX15_refusal_478 rfl cs_X15_85 (u_X15_two hR (k := 1) (by omega) (by omega)) rfl rfl (Nat.le_of_ble_eq_true rfl) (by decide) ⟨by omega, by omega⟩ ?_
              have w478 := wd_lt (k := 1) hq
              refine e_aload_n 482 dX15_refusal_481 rfl rfl ?_
              refine e_aload_n 483 dX15_refusal_482 rfl rfl ?_
              refine u_callS 486 dX15_refusal_483 rfl cs_X15_123 (u_X15_masked hv he hok hR hqn hq h1 hl9 (by omega) (plZ_1 k468)) rfl rfl (Nat.le_of_ble_eq_true rfl) (by decide) ⟨by omega, by omega⟩ ?_
              have hm9 := mkN_lt (v := (dL s 2).getD (wd q 1 - dF s 2) 0) (a := wd q 3) (o := wd q 5) (gd_lt (okD_L hok 2) (by decide)) (wd_lt hq)
              refine u_callV 489 dX15_refusal_486 rfl cv_X15_111 v0 (u_X12_may hv he h8 (by omega) (by omega)) rfl rfl (Nat.le_of_ble_eq_true rfl) (by decide) ⟨by omega, by omega⟩ ?_
              refine e_if_eq 496 492 dX15_refusal_489 rfl rfl (fun c489 => ?_) (fun c489 => ?_)
              · have k489 := jb_eq_t c489
                refine e_iconst 497 (v := (nI 3)) dX15_refusal_496 rfl (by decide) ?_
                exact e_iret dX15_refusal_497 rfl (by omega) (by omega) (⟨by rw [show rfA s q = 3 by (rw [rfA, if_neg (fun z => z h51), fhF, if_neg (by omega), if_neg (by omega), if_neg (by omega), if_neg (by omega), if_neg (by omega), if_neg (by omega), if_neg (by omega), if_neg (by omega), if_neg (by omega), if_pos (by omega)]; rw [mfF, ← plZ_plI (s := s) (k := 2) (a := wd q 1) (m := 1) (by omega) (by omega), k468, if_pos rfl, k489] <;> rfl)], rfl⟩)
              · have k489 := jb_eq_f c489
                refine e_iconst 493 (v := (nI 0)) dX15_refusal_492 rfl (by decide) ?_
                refine e_goto 497 dX15_refusal_493 rfl ?_
                exact e_iret dX15_refusal_497 rfl (by omega) (by omega) (⟨by rw [show rfA s q = 0 by (rw [rfA, if_neg (fun z => z h51), fhF, if_neg (by omega), if_neg (by omega), if_neg (by omega), if_neg (by omega), if_neg (by omega), if_neg (by omega), if_neg (by omega), if_neg (by omega), if_neg (by omega), if_pos (by omega)]; rw [mfF, ← plZ_plI (s := s) (k := 2) (a := wd q 1) (m := 1) (by omega) (by omega), k468, if_pos rfl, k489] <;> rfl)], rfl⟩)
            · have k468 := jb_ne_f c468
              refine e_iconst 472 (v := (nI 2)) dX15_refusal_471 rfl (by decide) ?_
              refine e_goto 497 dX15_refusal_472 rfl ?_
              exact e_iret dX15_refusal_497 rfl (by omega) (by omega) (⟨by rw [show rfA s q = 2 by (rw [rfA, if_neg (fun z => z h51), fhF, if_neg (by omega), if_neg (by omega), if_neg (by omega), if_neg (by omega), if_neg (by omega), if_neg (by omega), if_neg (by omega), if_neg (by omega), if_neg (by omega), if_pos (by omega)]; rw [mfF, ← plZ_plI (s := s) (k := 2) (a := wd q 1) (m := 1) (by omega) (by omega), k468] <;> rfl)], rfl⟩)
          · refine e_tableIn 498 (off := 441) dX15_refusal_57 (by rw [nI_toInt (by omega)]; omega) (by rw [nI_toInt (by omega)]; omega) (by rw [s57]; decide) rfl ?_
            have g9 := sh_23 (q := q) (by omega) h51
            refine e_aload_n 499 dX15_refusal_498 rfl rfl ?_
            refine e_iconst 500 (v := (nI 2)) dX15_refusal_499 rfl (by decide) ?_
            refine e_aload_n 501 dX15_refusal_500 rfl rfl ?_
            refine e_iconst 502 (v := (nI 1)) dX15_refusal_501 rfl (by decide) ?_
            refine u_callS 505 dX15_refusal_502 rfl cs_X15_85 (u_X15_two hR (k := 1) (by omega) (by omega)) rfl rfl (Nat.le_of_ble_eq_true rfl) (by decide) ⟨by omega, by omega⟩ ?_
            have w502 := wd_lt (k := 1) hq
            refine e_aload_n 506 dX15_refusal_505 rfl rfl ?_
            refine e_iconst 507 (v := (nI 3)) dX15_refusal_506 rfl (by decide) ?_
            refine u_callS 510 dX15_refusal_507 rfl cs_X15_85 (u_X15_two hR (k := 3) (by omega) (by omega)) rfl rfl (Nat.le_of_ble_eq_true rfl) (by decide) ⟨by omega, by omega⟩ ?_
            have w507 := wd_lt (k := 3) hq
            refine u_callV 513 dX15_refusal_510 rfl cv_X15_107 v0 (u_X12_has hv he (by decide) (by omega) (by omega)) rfl rfl (Nat.le_of_ble_eq_true rfl) (by decide) ⟨by omega, by omega⟩ ?_
            refine e_if_eq 535 516 dX15_refusal_513 rfl rfl (fun c513 => ?_) (fun c513 => ?_)
            · have k513 := jb_eq_t c513
              refine e_iconst 536 (v := (nI 2)) dX15_refusal_535 rfl (by decide) ?_
              exact e_iret dX15_refusal_536 rfl (by omega) (by omega) (⟨by rw [show rfA s q = 2 by (rw [rfA, if_neg (fun z => z h51), fhF, if_neg (by omega), if_neg (by omega), if_neg (by omega), if_neg (by omega), if_neg (by omega), if_neg (by omega), if_neg (by omega), if_neg (by omega), if_neg (by omega), if_neg (by omega), if_pos (by omega)]; rw [← plZ_plI (s := s) (k := 2) (a := wd q 1) (m := wd q 3) (by omega) (by omega), k513] <;> rfl)], rfl⟩)
            · have k513 := jb_eq_f c513
              refine e_aload_n 517 dX15_refusal_516 rfl rfl ?_
              refine e_iconst 518 (v := (nI 2)) dX15_refusal_517 rfl (by decide) ?_
              refine e_aload_n 519 dX15_refusal_518 rfl rfl ?_
              refine e_iconst 520 (v := (nI 5)) dX15_refusal_519 rfl (by decide) ?_
              refine u_callS 523 dX15_refusal_520 rfl cs_X15_85 (u_X15_two hR (k := 5) (by omega) (by omega)) rfl rfl (Nat.le_of_ble_eq_true rfl) (by decide) ⟨by omega, by omega⟩ ?_
              have w520 := wd_lt (k := 5) hq
              refine e_aload_n 524 dX15_refusal_523 rfl rfl ?_
              refine e_bipush 526 (v := (nI 7)) dX15_refusal_524 rfl (by decide) ?_
              refine u_callS 529 dX15_refusal_526 rfl cs_X15_85 (u_X15_two hR (k := 7) (by omega) (by omega)) rfl rfl (Nat.le_of_ble_eq_true rfl) (by decide) ⟨by omega, by omega⟩ ?_
              have w526 := wd_lt (k := 7) hq
              refine u_callV 532 dX15_refusal_529 rfl cv_X15_107 v0 (u_X12_has hv he (by decide) (by omega) (by omega)) rfl rfl (Nat.le_of_ble_eq_true rfl) (by decide) ⟨by omega, by omega⟩ ?_
              refine e_if_ne 537 535 dX15_refusal_532 rfl rfl (fun c532 => ?_) (fun c532 => ?_)
              · have k532 := jb_ne_t c532
                refine e_aload_n 538 dX15_refusal_537 rfl rfl ?_
                refine e_aload_n 539 dX15_refusal_538 rfl rfl ?_
                refine e_aload_n 540 dX15_refusal_539 rfl rfl ?_
                refine e_iconst 541 (v := (nI 5)) dX15_refusal_540 rfl (by decide) ?_
                refine u_callS 544 dX15_refusal_541 rfl cs_X15_85 (u_X15_two hR (k := 5) (by omega) (by omega)) rfl rfl (Nat.le_of_ble_eq_true rfl) (by decide) ⟨by omega, by omega⟩ ?_
                have w541 := wd_lt (k := 5) hq
                refine e_aload_n 545 dX15_refusal_544 rfl rfl ?_
                refine e_bipush 547 (v := (nI 7)) dX15_refusal_545 rfl (by decide) ?_
                refine u_callS 550 dX15_refusal_547 rfl cs_X15_85 (u_X15_two hR (k := 7) (by omega) (by omega)) rfl rfl (Nat.le_of_ble_eq_true rfl) (by decide) ⟨by omega, by omega⟩ ?_
                have w547 := wd_lt (k := 7) hq
                refine e_bipush 552 (v := (nI 10)) dX15_refusal_550 rfl (by decide) ?_
                refine u_callS 555 dX15_refusal_552 rfl cs_X15_115 (u_X15_mays hv he hok hR hqn hq h1 hl9 (by omega) (by omega) (by omega)) rfl rfl (Nat.le_of_ble_eq_true rfl) (by decide) ⟨by omega, by omega⟩ ?_
                refine e_if_eq 562 558 dX15_refusal_555 rfl rfl (fun c555 => ?_) (fun c555 => ?_)
                · have k555 := jb_eq_t c555
                  refine e_iconst 563 (v := (nI 3)) dX15_refusal_562 rfl (by decide) ?_
                  exact e_iret dX15_refusal_563 rfl (by omega) (by omega) (⟨by rw [show rfA s q = 3 by (rw [rfA, if_neg (fun z => z h51), fhF, if_neg (by omega), if_neg (by omega), if_neg (by omega), if_neg (by omega), if_neg (by omega), if_neg (by omega), if_neg (by omega), if_neg (by omega), if_neg (by omega), if_neg (by omega), if_pos (by omega)]; rw [← plZ_plI (s := s) (k := 2) (a := wd q 1) (m := wd q 3) (by omega) (by omega), k513, if_pos rfl, rgF, ← plZ_plI (s := s) (k := 2) (a := wd q 5) (m := wd q 7) (by omega) (by omega), k532, if_pos rfl, k555] <;> rfl)], rfl⟩)
                · have k555 := jb_eq_f c555
                  refine e_iconst 559 (v := (nI 0)) dX15_refusal_558 rfl (by decide) ?_
                  refine e_goto 563 dX15_refusal_559 rfl ?_
                  exact e_iret dX15_refusal_563 rfl (by omega) (by omega) (⟨by rw [show rfA s q = 0 by (rw [rfA, if_neg (fun z => z h51), fhF, if_neg (by omega), if_neg (by omega), if_neg (by omega), if_neg (by omega), if_neg (by omega), if_neg (by omega), if_neg (by omega), if_neg (by omega), if_neg (by omega), if_neg (by omega), if_pos (by omega)]; rw [← plZ_plI (s := s) (k := 2) (a := wd q 1) (m := wd q 3) (by omega) (by omega), k513, if_pos rfl, rgF, ← plZ_plI (s := s) (k := 2) (a := wd q 5) (m := wd q 7) (by omega) (by omega), k532, if_pos rfl, k555] <;> rfl)], rfl⟩)
              · have k532 := jb_ne_f c532
                refine e_iconst 536 (v := (nI 2)) dX15_refusal_535 rfl (by decide) ?_
                exact e_iret dX15_refusal_536 rfl (by omega) (by omega) (⟨by rw [show rfA s q = 2 by (rw [rfA, if_neg (fun z => z h51), fhF, if_neg (by omega), if_neg (by omega), if_neg (by omega), if_neg (by omega), if_neg (by omega), if_neg (by omega), if_neg (by omega), if_neg (by omega), if_neg (by omega), if_neg (by omega), if_pos (by omega)]; rw [← plZ_plI (s := s) (k := 2) (a := wd q 1) (m := wd q 3) (by omega) (by omega), k513, if_pos rfl, rgF, ← plZ_plI (s := s) (k := 2) (a := wd q 5) (m := wd q 7) (by omega) (by omega), k532] <;> rfl)], rfl⟩)
          · refine e_tableIn 564 (off := 507) dX15_refusal_57 (by rw [nI_toInt (by omega)]; omega) (by rw [nI_toInt (by omega)]; omega) (by rw [s57]; decide) rfl ?_
            have g9 := sh_24 (q := q) (by omega) h51
            refine e_aload_n 565 dX15_refusal_564 rfl rfl ?_
            refine e_aload_n 566 dX15_refusal_565 rfl rfl ?_
            refine e_iconst 567 (v := (nI 1)) dX15_refusal_566 rfl (by decide) ?_
            refine u_callS 570 dX15_refusal_567 rfl cs_X15_85 (u_X15_two hR (k := 1) (by omega) (by omega)) rfl rfl (Nat.le_of_ble_eq_true rfl) (by decide) ⟨by omega, by omega⟩ ?_
            have w567 := wd_lt (k := 1) hq
            refine u_callV 573 dX15_refusal_570 rfl cv_X15_127 v0 (u_X12_queueOf hv he) rfl rfl (Nat.le_of_ble_eq_true rfl) (by decide) ⟨by omega, by omega⟩ ?_
            rcases hx570 : ixM (dS s 1) (nI (wd q 1)) with _ | i570
            · have n570 := hx570
              refine e_istore 575 (ls' := [some (.ref d), some (.ref a), some (.int (nI q.length)), some (.int (nI (q.getD 0 0))), some (.int (-1))]) dX15_refusal_573 rfl (by decide) rfl ?_
              refine e_iload 577 dX15_refusal_575 rfl rfl ?_
              refine e_iconst 578 (v := (-1)) dX15_refusal_577 rfl (by decide) ?_
              refine e_icmp_ne 585 581 dX15_refusal_578 rfl rfl (fun c578 => absurd c578 (fun z => z rfl)) (fun c578 => ?_)
              refine e_iconst 582 (v := (nI 2)) dX15_refusal_581 rfl (by decide) ?_
              refine e_goto 602 dX15_refusal_582 rfl ?_
              exact e_iret dX15_refusal_602 rfl (by omega) (by omega) (⟨by rw [show rfA s q = 2 by (rw [rfA, if_neg (fun z => z h51), fhF, if_neg (by omega), if_neg (by omega), if_neg (by omega), if_neg (by omega), if_neg (by omega), if_neg (by omega), if_neg (by omega), if_neg (by omega), if_neg (by omega), if_neg (by omega), if_neg (by omega), if_pos (by omega)]; rw [qfF, n570])], rfl⟩)
            · have l570 := ixM_lt hx570
              have hrl := shO_at hsh.2.1 (by decide) i570
              refine e_istore 575 (ls' := [some (.ref d), some (.ref a), some (.int (nI q.length)), some (.int (nI (q.getD 0 0))), some (.int (nI i570))]) dX15_refusal_573 rfl (by decide) rfl ?_
              refine e_iload 577 dX15_refusal_575 rfl rfl ?_
              refine e_iconst 578 (v := (-1)) dX15_refusal_577 rfl (by decide) ?_
              refine e_icmp_ne 585 581 dX15_refusal_578 rfl rfl (fun c578 => ?_) (fun c578 => absurd c578 (nI_ne_m1 (by omega)))
              refine e_aload_n 586 dX15_refusal_585 rfl rfl ?_
              refine e_get 589 dX15_refusal_586 rfl fl_X15_131_10 v0 rfl ?_
              refine e_iload 591 dX15_refusal_589 rfl rfl ?_
              refine v_iald 592 v13 (k := i570) (x := (rwM (dS s 1) i570).length) dX15_refusal_591 rfl (by simp only [szs_len] <;> omega) (by omega) szs_at ?_
              refine e_bipush 594 (v := (nI 31)) dX15_refusal_592 rfl (by decide) ?_
              refine e_icmp_le 601 597 dX15_refusal_594 rfl rfl (fun c594 => ?_) (fun c594 => ?_)
              · have k594 := j_le_t (a := ((rwM (dS s 1) i570).length)) (b := 31) (by omega) (by omega) c594
                refine e_iconst 602 (v := (nI 0)) dX15_refusal_601 rfl (by decide) ?_
                exact e_iret dX15_refusal_602 rfl (by omega) (by omega) (⟨by rw [show rfA s q = 0 by (rw [rfA, if_neg (fun z => z h51), fhF, if_neg (by omega), if_neg (by omega), if_neg (by omega), if_neg (by omega), if_neg (by omega), if_neg (by omega), if_neg (by omega), if_neg (by omega), if_neg (by omega), if_neg (by omega), if_neg (by omega), if_pos (by omega)]; rw [qfF, hx570]; exact if_neg (by omega))], rfl⟩)
              · have k594 := j_le_f (a := ((rwM (dS s 1) i570).length)) (b := 31) (by omega) (by omega) c594
                refine e_iconst 598 (v := (nI 3)) dX15_refusal_597 rfl (by decide) ?_
                refine e_goto 602 dX15_refusal_598 rfl ?_
                exact e_iret dX15_refusal_602 rfl (by omega) (by omega) (⟨by rw [show rfA s q = 3 by (rw [rfA, if_neg (fun z => z h51), fhF, if_neg (by omega), if_neg (by omega), if_neg (by omega), if_neg (by omega), if_neg (by omega), if_neg (by omega), if_neg (by omega), if_neg (by omega), if_neg (by omega), if_neg (by omega), if_neg (by omega), if_pos (by omega)]; rw [qfF, hx570]; exact if_pos (by omega))], rfl⟩)
          · refine e_tableIn 603 (off := 546) dX15_refusal_57 (by rw [nI_toInt (by omega)]; omega) (by rw [nI_toInt (by omega)]; omega) (by rw [s57]; decide) rfl ?_
            have g9 := sh_43 (q := q) (by omega) h51
            refine e_aload_n 604 dX15_refusal_603 rfl rfl ?_
            refine e_iconst 605 (v := (nI 2)) dX15_refusal_604 rfl (by decide) ?_
            have b605 := gd_lt (i := 2) hq (by decide)
            refine v_iald 606 hR (k := 2) (x := (q.getD 2 0)) dX15_refusal_605 rfl (by omega) (by omega) rfl ?_
            refine e_iconst 607 (v := (nI 4)) dX15_refusal_606 rfl (by decide) ?_
            refine e_icmp_ne 625 610 dX15_refusal_607 rfl rfl (fun c607 => ?_) (fun c607 => ?_)
            · have k607 := j_ne_t (a := (q.getD 2 0)) (b := 4) (by omega) (by omega) c607
              refine e_iconst 626 (v := (nI 0)) dX15_refusal_625 rfl (by decide) ?_
              exact e_iret dX15_refusal_626 rfl (by omega) (by omega) (⟨by rw [show rfA s q = 0 by (rw [rfA, if_neg (fun z => z h51), fhF, if_neg (by omega), if_neg (by omega), if_neg (by omega), if_neg (by omega), if_neg (by omega), if_neg (by omega), if_neg (by omega), if_neg (by omega), if_neg (by omega), if_neg (by omega), if_neg (by omega), if_neg (by omega), if_pos (by omega)]; exact if_neg (fun z => k607 z.1))], rfl⟩)
            · have k607 := j_ne_f (a := (q.getD 2 0)) (b := 4) (by omega) (by omega) c607
              refine e_aload_n 611 dX15_refusal_610 rfl rfl ?_
              refine e_aload_n 612 dX15_refusal_611 rfl rfl ?_
              refine e_iconst 613 (v := (nI 3)) dX15_refusal_612 rfl (by decide) ?_
              have b613 := gd_lt (i := 3) hq (by decide)
              refine v_iald 614 hR (k := 3) (x := (q.getD 3 0)) dX15_refusal_613 rfl (by omega) (by omega) rfl ?_
              refine u_callV 617 dX15_refusal_614 rfl cv_X15_134 v0 (u_X12_textOf hv he) rfl rfl (Nat.le_of_ble_eq_true rfl) (by decide) ⟨by omega, by omega⟩ ?_
              rcases hx614 : ixM (sortT (dS s 2)) (nI (q.getD 3 0)) with _ | i614
              · have n614 := hx614
                refine e_iconst 618 (v := (-1)) dX15_refusal_617 rfl (by decide) ?_
                refine e_icmp_ne 625 621 dX15_refusal_618 rfl rfl (fun c618 => absurd c618 (fun z => z rfl)) (fun c618 => ?_)
                refine e_iconst 622 (v := (nI 2)) dX15_refusal_621 rfl (by decide) ?_
                refine e_goto 626 dX15_refusal_622 rfl ?_
                exact e_iret dX15_refusal_626 rfl (by omega) (by omega) (⟨by rw [show rfA s q = 2 by (rw [rfA, if_neg (fun z => z h51), fhF, if_neg (by omega), if_neg (by omega), if_neg (by omega), if_neg (by omega), if_neg (by omega), if_neg (by omega), if_neg (by omega), if_neg (by omega), if_neg (by omega), if_neg (by omega), if_neg (by omega), if_neg (by omega), if_pos (by omega)]; exact if_pos ⟨by omega, ixM_sort.mp n614⟩)], rfl⟩)
              · have l614 := ixM_lt hx614
                rw [sortT_len] at l614
                refine e_iconst 618 (v := (-1)) dX15_refusal_617 rfl (by decide) ?_
                refine e_icmp_ne 625 621 dX15_refusal_618 rfl rfl (fun c618 => ?_) (fun c618 => absurd c618 (nI_ne_m1 (by omega)))
                refine e_iconst 626 (v := (nI 0)) dX15_refusal_625 rfl (by decide) ?_
                exact e_iret dX15_refusal_626 rfl (by omega) (by omega) (⟨by rw [show rfA s q = 0 by (rw [rfA, if_neg (fun z => z h51), fhF, if_neg (by omega), if_neg (by omega), if_neg (by omega), if_neg (by omega), if_neg (by omega), if_neg (by omega), if_neg (by omega), if_neg (by omega), if_neg (by omega), if_neg (by omega), if_neg (by omega), if_neg (by omega), if_pos (by omega)]; exact if_neg (fun z => by rw [ixM_sort.mpr z.2] at hx614; cases hx614))], rfl⟩)
        · have k51 := jb_ne_f c51
          have h51 : shF q ≠ 0 := of_decide_eq_false k51
          refine e_iconst 55 (v := (nI 3)) dX15_refusal_54 rfl (by decide) ?_
          exact e_iret dX15_refusal_55 rfl (by omega) (by omega) (⟨by rw [show rfA s q = 3 by (rw [rfA, if_pos h51]; exact (sh_03 t8 (by omega) (by omega)).resolve_left h51)], rfl⟩)
      · have k28 := j_ne_f (a := (q.getD 0 0)) (b := 43) (by omega) (by omega) c28
        refine e_iload_n 32 dX15_refusal_31 rfl rfl ?_
        refine e_iconst 33 (v := (nI 1)) dX15_refusal_32 rfl (by decide) ?_
        refine e_icmp_le 46 36 dX15_refusal_33 rfl rfl (fun c33 => ?_) (fun c33 => ?_)
        · have k33 := j_le_t (a := q.length) (b := 1) (by omega) (by omega) c33
          refine e_aload_n 47 dX15_refusal_46 rfl rfl ?_
          refine e_iload_n 48 dX15_refusal_47 rfl rfl ?_
          refine u_callS 51 dX15_refusal_48 rfl cs_X15_103 (u_X15_isShaped hR hqn hq h1) rfl rfl (Nat.le_of_ble_eq_true rfl) (by decide) ⟨by omega, by omega⟩ ?_
          refine e_if_ne 56 54 dX15_refusal_51 rfl rfl (fun c51 => ?_) (fun c51 => ?_)
          · have k51 := jb_ne_t c51
            have h51 : shF q = 0 := of_decide_eq_true k51
            refine e_iload_n 57 dX15_refusal_56 rfl rfl ?_
            rcases (show ((q.getD 0 0) < 1 ∨ 43 < (q.getD 0 0)) ∨ ((q.getD 0 0) = 1 ∨ (q.getD 0 0) = 2 ∨ (q.getD 0 0) = 3 ∨ (q.getD 0 0) = 4) ∨ ((q.getD 0 0) = 5) ∨ ((q.getD 0 0) = 6) ∨ ((q.getD 0 0) = 7 ∨ (q.getD 0 0) = 8 ∨ (q.getD 0 0) = 9 ∨ (q.getD 0 0) = 10 ∨ (q.getD 0 0) = 11 ∨ (q.getD 0 0) = 12 ∨ (q.getD 0 0) = 13 ∨ (q.getD 0 0) = 14 ∨ (q.getD 0 0) = 17 ∨ (q.getD 0 0) = 18 ∨ (q.getD 0 0) = 19 ∨ (q.getD 0 0) = 25 ∨ (q.getD 0 0) = 26 ∨ (q.getD 0 0) = 27 ∨ (q.getD 0 0) = 28 ∨ (q.getD 0 0) = 29 ∨ (q.getD 0 0) = 30 ∨ (q.getD 0 0) = 31 ∨ (q.getD 0 0) = 32 ∨ (q.getD 0 0) = 33 ∨ (q.getD 0 0) = 34 ∨ (q.getD 0 0) = 35 ∨ (q.getD 0 0) = 36 ∨ (q.getD 0 0) = 37 ∨ (q.getD 0 0) = 38 ∨ (q.getD 0 0) = 39 ∨ (q.getD 0 0) = 40 ∨ (q.getD 0 0) = 41 ∨ (q.getD 0 0) = 42) ∨ ((q.getD 0 0) = 15) ∨ ((q.getD 0 0) = 16) ∨ ((q.getD 0 0) = 20 ∨ (q.getD 0 0) = 21) ∨ ((q.getD 0 0) = 22) ∨ ((q.getD 0 0) = 23) ∨ ((q.getD 0 0) = 24) ∨ ((q.getD 0 0) = 43) by omega) with s57 | s57 | s57 | s57 | s57 | s57 | s57 | s57 | s57 | s57 | s57 | s57
            · refine e_tableOut 627 dX15_refusal_57 (by rw [nI_toInt (by omega)]; omega) rfl ?_
              refine e_iconst 628 (v := (nI 0)) dX15_refusal_627 rfl (by decide) ?_
              exact e_iret dX15_refusal_628 rfl (by omega) (by omega) (⟨by rw [show rfA s q = 0 by (rw [rfA, if_neg (fun z => z h51), fhF, if_neg (by omega), if_neg (by omega), if_neg (by omega), if_neg (by omega), if_neg (by omega), if_neg (by omega), if_neg (by omega), if_neg (by omega), if_neg (by omega), if_neg (by omega), if_neg (by omega), if_neg (by omega), if_neg (by omega)])], rfl⟩)
            · refine e_tableIn 244 (off := 187) dX15_refusal_57 (by rw [nI_toInt (by omega)]; omega) (by rw [nI_toInt (by omega)]; omega) (by rcases s57 with s57 | s57 | s57 | s57 <;> rw [s57] <;> decide) rfl ?_
              refine e_aload_n 245 dX15_refusal_244 rfl rfl ?_
              refine e_iload_n 246 dX15_refusal_245 rfl rfl ?_
              refine e_iconst 247 (v := (nI 1)) dX15_refusal_246 rfl (by decide) ?_
              refine e_icmp_ne 254 250 dX15_refusal_247 rfl rfl (fun c247 => ?_) (fun c247 => ?_)
              · have k247 := j_ne_t (a := (q.getD 0 0)) (b := 1) (by omega) (by omega) c247
                refine e_iload_n 255 dX15_refusal_254 rfl rfl ?_
                refine e_iconst 256 (v := (nI 2)) dX15_refusal_255 rfl (by decide) ?_
                refine e_icmp_ne 263 259 dX15_refusal_256 rfl rfl (fun c256 => ?_) (fun c256 => ?_)
                · have k256 := j_ne_t (a := (q.getD 0 0)) (b := 2) (by omega) (by omega) c256
                  refine e_iload_n 264 dX15_refusal_263 rfl rfl ?_
                  refine e_iconst 265 (v := (nI 3)) dX15_refusal_264 rfl (by decide) ?_
                  refine e_icmp_ne 272 268 dX15_refusal_265 rfl rfl (fun c265 => ?_) (fun c265 => ?_)
                  · have k265 := j_ne_t (a := (q.getD 0 0)) (b := 3) (by omega) (by omega) c265
                    refine e_iconst 273 (v := (nI 3)) dX15_refusal_272 rfl (by decide) ?_
                    have g9 := sh_3 (q := q) (by omega) h51
                    refine e_aload_n 274 dX15_refusal_273 rfl rfl ?_
                    refine e_iconst 275 (v := (nI 1)) dX15_refusal_274 rfl (by decide) ?_
                    refine u_callS 278 dX15_refusal_275 rfl cs_X15_85 (u_X15_two hR (k := 1) (by omega) (by omega)) rfl rfl (Nat.le_of_ble_eq_true rfl) (by decide) ⟨by omega, by omega⟩ ?_
                    have w275 := wd_lt (k := 1) hq
                    refine e_aload_n 279 dX15_refusal_278 rfl rfl ?_
                    refine e_iconst 280 (v := (nI 3)) dX15_refusal_279 rfl (by decide) ?_
                    refine u_callS 283 dX15_refusal_280 rfl cs_X15_85 (u_X15_two hR (k := 3) (by omega) (by omega)) rfl rfl (Nat.le_of_ble_eq_true rfl) (by decide) ⟨by omega, by omega⟩ ?_
                    have w280 := wd_lt (k := 3) hq
                    refine u_callV 286 dX15_refusal_283 rfl cv_X15_107 v0 (u_X12_has hv he (by decide) (by omega) (by omega)) rfl rfl (Nat.le_of_ble_eq_true rfl) (by decide) ⟨by omega, by omega⟩ ?_
                    refine e_if_eq 293 289 dX15_refusal_286 rfl rfl (fun c286 => ?_) (fun c286 => ?_)
                    · have k286 := jb_eq_t c286
                      refine e_iconst 294 (v := (nI 2)) dX15_refusal_293 rfl (by decide) ?_
                      exact e_iret dX15_refusal_294 rfl (by omega) (by omega) (⟨by rw [show rfA s q = 2 by (rw [rfA, if_neg (fun z => z h51), fhF, if_neg (by omega), if_neg (by omega), if_neg (by omega), if_pos (by omega)]; rw [← plZ_plI (s := s) (k := 3) (a := wd q 1) (m := wd q 3) (by omega) (by omega), k286] <;> rfl)], rfl⟩)
                    · have k286 := jb_eq_f c286
                      refine e_iconst 290 (v := (nI 0)) dX15_refusal_289 rfl (by decide) ?_
                      refine e_goto 294 dX15_refusal_290 rfl ?_
                      exact e_iret dX15_refusal_294 rfl (by omega) (by omega) (⟨by rw [show rfA s q = 0 by (rw [rfA, if_neg (fun z => z h51), fhF, if_neg (by omega), if_neg (by omega), if_neg (by omega), if_pos (by omega)]; rw [← plZ_plI (s := s) (k := 3) (a := wd q 1) (m := wd q 3) (by omega) (by omega), k286] <;> rfl)], rfl⟩)
                  · have k265 := j_ne_f (a := (q.getD 0 0)) (b := 3) (by omega) (by omega) c265
                    refine e_iconst 269 (v := (nI 2)) dX15_refusal_268 rfl (by decide) ?_
                    refine e_goto 273 dX15_refusal_269 rfl ?_
                    have g9 := sh_3 (q := q) (by omega) h51
                    refine e_aload_n 274 dX15_refusal_273 rfl rfl ?_
                    refine e_iconst 275 (v := (nI 1)) dX15_refusal_274 rfl (by decide) ?_
                    refine u_callS 278 dX15_refusal_275 rfl cs_X15_85 (u_X15_two hR (k := 1) (by omega) (by omega)) rfl rfl (Nat.le_of_ble_eq_true rfl) (by decide) ⟨by omega, by omega⟩ ?_
                    have w275 := wd_lt (k := 1) hq
                    refine e_aload_n 279 dX15_refusal_278 rfl rfl ?_
                    refine e_iconst 280 (v := (nI 3)) dX15_refusal_279 rfl (by decide) ?_
                    refine u_callS 283 dX15_refusal_280 rfl cs_X15_85 (u_X15_two hR (k := 3) (by omega) (by omega)) rfl rfl (Nat.le_of_ble_eq_true rfl) (by decide) ⟨by omega, by omega⟩ ?_
                    have w280 := wd_lt (k := 3) hq
                    refine u_callV 286 dX15_refusal_283 rfl cv_X15_107 v0 (u_X12_has hv he (by decide) (by omega) (by omega)) rfl rfl (Nat.le_of_ble_eq_true rfl) (by decide) ⟨by omega, by omega⟩ ?_
                    refine e_if_eq 293 289 dX15_refusal_286 rfl rfl (fun c286 => ?_) (fun c286 => ?_)
                    · have k286 := jb_eq_t c286
                      refine e_iconst 294 (v := (nI 2)) dX15_refusal_293 rfl (by decide) ?_
                      exact e_iret dX15_refusal_294 rfl (by omega) (by omega) (⟨by rw [show rfA s q = 2 by (rw [rfA, if_neg (fun z => z h51), fhF, if_neg (by omega), if_neg (by omega), if_pos (by omega)]; rw [← plZ_plI (s := s) (k := 2) (a := wd q 1) (m := wd q 3) (by omega) (by omega), k286] <;> rfl)], rfl⟩)
                    · have k286 := jb_eq_f c286
                      refine e_iconst 290 (v := (nI 0)) dX15_refusal_289 rfl (by decide) ?_
                      refine e_goto 294 dX15_refusal_290 rfl ?_
                      exact e_iret dX15_refusal_294 rfl (by omega) (by omega) (⟨by rw [show rfA s q = 0 by (rw [rfA, if_neg (fun z => z h51), fhF, if_neg (by omega), if_neg (by omega), if_pos (by omega)]; rw [← plZ_plI (s := s) (k := 2) (a := wd q 1) (m := wd q 3) (by omega) (by omega), k286] <;> rfl)], rfl⟩)
                · have k256 := j_ne_f (a := (q.getD 0 0)) (b := 2) (by omega) (by omega) c256
                  refine e_iconst 260 (v := (nI 1)) dX15_refusal_259 rfl (by decide) ?_
                  refine e_goto 273 dX15_refusal_260 rfl ?_
                  have g9 := sh_1 (q := q) (by omega) h51
                  refine e_aload_n 274 dX15_refusal_273 rfl rfl ?_
                  refine e_iconst 275 (v := (nI 1)) dX15_refusal_274 rfl (by decide) ?_
                  refine u_callS 278 dX15_refusal_275 rfl cs_X15_85 (u_X15_two hR (k := 1) (by omega) (by omega)) rfl rfl (Nat.le_of_ble_eq_true rfl) (by decide) ⟨by omega, by omega⟩ ?_
                  have w275 := wd_lt (k := 1) hq
                  refine e_aload_n 279 dX15_refusal_278 rfl rfl ?_
                  refine e_iconst 280 (v := (nI 3)) dX15_refusal_279 rfl (by decide) ?_
                  refine u_callS 283 dX15_refusal_280 rfl cs_X15_85 (u_X15_two hR (k := 3) (by omega) (by omega)) rfl rfl (Nat.le_of_ble_eq_true rfl) (by decide) ⟨by omega, by omega⟩ ?_
                  have w280 := wd_lt (k := 3) hq
                  refine u_callV 286 dX15_refusal_283 rfl cv_X15_107 v0 (u_X12_has hv he (by decide) (by omega) (by omega)) rfl rfl (Nat.le_of_ble_eq_true rfl) (by decide) ⟨by omega, by omega⟩ ?_
                  refine e_if_eq 293 289 dX15_refusal_286 rfl rfl (fun c286 => ?_) (fun c286 => ?_)
                  · have k286 := jb_eq_t c286
                    refine e_iconst 294 (v := (nI 2)) dX15_refusal_293 rfl (by decide) ?_
                    exact e_iret dX15_refusal_294 rfl (by omega) (by omega) (⟨by rw [show rfA s q = 2 by (rw [rfA, if_neg (fun z => z h51), fhF, if_neg (by omega), if_pos (by omega)]; rw [← plZ_plI (s := s) (k := 1) (a := wd q 1) (m := wd q 3) (by omega) (by omega), k286] <;> rfl)], rfl⟩)
                  · have k286 := jb_eq_f c286
                    refine e_iconst 290 (v := (nI 0)) dX15_refusal_289 rfl (by decide) ?_
                    refine e_goto 294 dX15_refusal_290 rfl ?_
                    exact e_iret dX15_refusal_294 rfl (by omega) (by omega) (⟨by rw [show rfA s q = 0 by (rw [rfA, if_neg (fun z => z h51), fhF, if_neg (by omega), if_pos (by omega)]; rw [← plZ_plI (s := s) (k := 1) (a := wd q 1) (m := wd q 3) (by omega) (by omega), k286] <;> rfl)], rfl⟩)
              · have k247 := j_ne_f (a := (q.getD 0 0)) (b := 1) (by omega) (by omega) c247
                refine e_iconst 251 (v := (nI 0)) dX15_refusal_250 rfl (by decide) ?_
                refine e_goto 273 dX15_refusal_251 rfl ?_
                have g9 := sh_1 (q := q) (by omega) h51
                refine e_aload_n 274 dX15_refusal_273 rfl rfl ?_
                refine e_iconst 275 (v := (nI 1)) dX15_refusal_274 rfl (by decide) ?_
                refine u_callS 278 dX15_refusal_275 rfl cs_X15_85 (u_X15_two hR (k := 1) (by omega) (by omega)) rfl rfl (Nat.le_of_ble_eq_true rfl) (by decide) ⟨by omega, by omega⟩ ?_
                have w275 := wd_lt (k := 1) hq
                refine e_aload_n 279 dX15_refusal_278 rfl rfl ?_
                refine e_iconst 280 (v := (nI 3)) dX15_refusal_279 rfl (by decide) ?_
                refine u_callS 283 dX15_refusal_280 rfl cs_X15_85 (u_X15_two hR (k := 3) (by omega) (by omega)) rfl rfl (Nat.le_of_ble_eq_true rfl) (by decide) ⟨by omega, by omega⟩ ?_
                have w280 := wd_lt (k := 3) hq
                refine u_callV 286 dX15_refusal_283 rfl cv_X15_107 v0 (u_X12_has hv he (by decide) (by omega) (by omega)) rfl rfl (Nat.le_of_ble_eq_true rfl) (by decide) ⟨by omega, by omega⟩ ?_
                refine e_if_eq 293 289 dX15_refusal_286 rfl rfl (fun c286 => ?_) (fun c286 => ?_)
                · have k286 := jb_eq_t c286
                  refine e_iconst 294 (v := (nI 2)) dX15_refusal_293 rfl (by decide) ?_
                  exact e_iret dX15_refusal_294 rfl (by omega) (by omega) (⟨by rw [show rfA s q = 2 by (rw [rfA, if_neg (fun z => z h51), fhF, if_pos (by omega)]; rw [← plZ_plI (s := s) (k := 0) (a := wd q 1) (m := wd q 3) (by omega) (by omega), k286] <;> rfl)], rfl⟩)
                · have k286 := jb_eq_f c286
                  refine e_iconst 290 (v := (nI 0)) dX15_refusal_289 rfl (by decide) ?_
                  refine e_goto 294 dX15_refusal_290 rfl ?_
                  exact e_iret dX15_refusal_294 rfl (by omega) (by omega) (⟨by rw [show rfA s q = 0 by (rw [rfA, if_neg (fun z => z h51), fhF, if_pos (by omega)]; rw [← plZ_plI (s := s) (k := 0) (a := wd q 1) (m := wd q 3) (by omega) (by omega), k286] <;> rfl)], rfl⟩)
            · refine e_tableIn 295 (off := 238) dX15_refusal_57 (by rw [nI_toInt (by omega)]; omega) (by rw [nI_toInt (by omega)]; omega) (by rw [s57]; decide) rfl ?_
              have g9 := sh_5 (q := q) (by omega) h51
              refine e_aload_n 296 dX15_refusal_295 rfl rfl ?_
              refine e_iconst 297 (v := (nI 3)) dX15_refusal_296 rfl (by decide) ?_
              refine u_callS 300 dX15_refusal_297 rfl cs_X15_85 (u_X15_two hR (k := 3) (by omega) (by omega)) rfl rfl (Nat.le_of_ble_eq_true rfl) (by decide) ⟨by omega, by omega⟩ ?_
              have w297 := wd_lt (k := 3) hq
              refine e_if_eq 317 303 dX15_refusal_300 rfl rfl (fun c300 => ?_) (fun c300 => ?_)
              · have k300 := j_eq0_t (a := (wd q 3)) (by omega) c300
                refine e_aload_n 318 dX15_refusal_317 rfl rfl ?_
                refine e_iconst 319 (v := (nI 0)) dX15_refusal_318 rfl (by decide) ?_
                refine e_aload_n 320 dX15_refusal_319 rfl rfl ?_
                refine e_iconst 321 (v := (nI 1)) dX15_refusal_320 rfl (by decide) ?_
                refine u_callS 324 dX15_refusal_321 rfl cs_X15_85 (u_X15_two hR (k := 1) (by omega) (by omega)) rfl rfl (Nat.le_of_ble_eq_true rfl) (by decide) ⟨by omega, by omega⟩ ?_
                have w321 := wd_lt (k := 1) hq
                refine e_iconst 325 (v := (nI 1)) dX15_refusal_324 rfl (by decide) ?_
                refine u_callV 328 dX15_refusal_325 rfl cv_X15_107 v0 (u_X12_has hv he (by decide) (by omega) (by omega)) rfl rfl (Nat.le_of_ble_eq_true rfl) (by decide) ⟨by omega, by omega⟩ ?_
                refine e_if_eq 335 331 dX15_refusal_328 rfl rfl (fun c328 => ?_) (fun c328 => ?_)
                · have k328 := jb_eq_t c328
                  refine e_iconst 336 (v := (nI 2)) dX15_refusal_335 rfl (by decide) ?_
                  exact e_iret dX15_refusal_336 rfl (by omega) (by omega) (⟨by rw [show rfA s q = 2 by (rw [rfA, if_neg (fun z => z h51), fhF, if_neg (by omega), if_neg (by omega), if_neg (by omega), if_neg (by omega), if_pos (by omega)]; rw [if_neg (by omega), ← plZ_plI (s := s) (k := 0) (a := wd q 1) (m := 1) (by omega) (by omega), k328] <;> rfl)], rfl⟩)
                · have k328 := jb_eq_f c328
                  refine e_iconst 332 (v := (nI 0)) dX15_refusal_331 rfl (by decide) ?_
                  refine e_goto 336 dX15_refusal_332 rfl ?_
                  exact e_iret dX15_refusal_336 rfl (by omega) (by omega) (⟨by rw [show rfA s q = 0 by (rw [rfA, if_neg (fun z => z h51), fhF, if_neg (by omega), if_neg (by omega), if_neg (by omega), if_neg (by omega), if_pos (by omega)]; rw [if_neg (by omega), ← plZ_plI (s := s) (k := 0) (a := wd q 1) (m := 1) (by omega) (by omega), k328] <;> rfl)], rfl⟩)
              · have k300 := j_eq0_f (a := (wd q 3)) (by omega) c300
                refine e_aload_n 304 dX15_refusal_303 rfl rfl ?_
                refine e_iconst 305 (v := (nI 3)) dX15_refusal_304 rfl (by decide) ?_
                refine u_callS 308 dX15_refusal_305 rfl cs_X15_85 (u_X15_two hR (k := 3) (by omega) (by omega)) rfl rfl (Nat.le_of_ble_eq_true rfl) (by decide) ⟨by omega, by omega⟩ ?_
                have w305 := wd_lt (k := 3) hq
                refine e_ldc 310 (v := (nI 65280)) dX15_refusal_308 rfl cn_X15_110 ?_
                refine e_icmp_eq 317 313 dX15_refusal_310 rfl rfl (fun c310 => ?_) (fun c310 => ?_)
                · have k310 := j_eq_t (a := (wd q 3)) (b := 65280) (by omega) (by omega) c310
                  refine e_aload_n 318 dX15_refusal_317 rfl rfl ?_
                  refine e_iconst 319 (v := (nI 0)) dX15_refusal_318 rfl (by decide) ?_
                  refine e_aload_n 320 dX15_refusal_319 rfl rfl ?_
                  refine e_iconst 321 (v := (nI 1)) dX15_refusal_320 rfl (by decide) ?_
                  refine u_callS 324 dX15_refusal_321 rfl cs_X15_85 (u_X15_two hR (k := 1) (by omega) (by omega)) rfl rfl (Nat.le_of_ble_eq_true rfl) (by decide) ⟨by omega, by omega⟩ ?_
                  have w321 := wd_lt (k := 1) hq
                  refine e_iconst 325 (v := (nI 1)) dX15_refusal_324 rfl (by decide) ?_
                  refine u_callV 328 dX15_refusal_325 rfl cv_X15_107 v0 (u_X12_has hv he (by decide) (by omega) (by omega)) rfl rfl (Nat.le_of_ble_eq_true rfl) (by decide) ⟨by omega, by omega⟩ ?_
                  refine e_if_eq 335 331 dX15_refusal_328 rfl rfl (fun c328 => ?_) (fun c328 => ?_)
                  · have k328 := jb_eq_t c328
                    refine e_iconst 336 (v := (nI 2)) dX15_refusal_335 rfl (by decide) ?_
                    exact e_iret dX15_refusal_336 rfl (by omega) (by omega) (⟨by rw [show rfA s q = 2 by (rw [rfA, if_neg (fun z => z h51), fhF, if_neg (by omega), if_neg (by omega), if_neg (by omega), if_neg (by omega), if_pos (by omega)]; rw [if_neg (by omega), ← plZ_plI (s := s) (k := 0) (a := wd q 1) (m := 1) (by omega) (by omega), k328] <;> rfl)], rfl⟩)
                  · have k328 := jb_eq_f c328
                    refine e_iconst 332 (v := (nI 0)) dX15_refusal_331 rfl (by decide) ?_
                    refine e_goto 336 dX15_refusal_332 rfl ?_
                    exact e_iret dX15_refusal_336 rfl (by omega) (by omega) (⟨by rw [show rfA s q = 0 by (rw [rfA, if_neg (fun z => z h51), fhF, if_neg (by omega), if_neg (by omega), if_neg (by omega), if_neg (by omega), if_pos (by omega)]; rw [if_neg (by omega), ← plZ_plI (s := s) (k := 0) (a := wd q 1) (m := 1) (by omega) (by omega), k328] <;> rfl)], rfl⟩)
                · have k310 := j_eq_f (a := (wd q 3)) (b := 65280) (by omega) (by omega) c310
                  refine e_iconst 314 (v := (nI 3)) dX15_refusal_313 rfl (by decide) ?_
                  refine e_goto 336 dX15_refusal_314 rfl ?_
                  exact e_iret dX15_refusal_336 rfl (by omega) (by omega) (⟨by rw [show rfA s q = 3 by (rw [rfA, if_neg (fun z => z h51), fhF, if_neg (by omega), if_neg (by omega), if_neg (by omega), if_neg (by omega), if_pos (by omega)]; exact if_pos ⟨by omega, by omega⟩)], rfl⟩)
            · refine e_tableIn 337 (off := 280) dX15_refusal_57 (by rw [nI_toInt (by omega)]; omega) (by rw [nI_toInt (by omega)]; omega) (by rw [s57]; decide) rfl ?_
              have g9 := sh_5 (q := q) (by omega) h51
              refine e_aload_n 338 dX15_refusal_337 rfl rfl ?_
              refine e_iconst 339 (v := (nI 2)) dX15_refusal_338 rfl (by decide) ?_
              refine e_aload_n 340 dX15_refusal_339 rfl rfl ?_
              refine e_iconst 341 (v := (nI 1)) dX15_refusal_340 rfl (by decide) ?_
              refine u_callS 344 dX15_refusal_341 rfl cs_X15_85 (u_X15_two hR (k := 1) (by omega) (by omega)) rfl rfl (Nat.le_of_ble_eq_true rfl) (by decide) ⟨by omega, by omega⟩ ?_
              have w341 := wd_lt (k := 1) hq
              refine e_iconst 345 (v := (nI 1)) dX15_refusal_344 rfl (by decide) ?_
              refine u_callV 348 dX15_refusal_345 rfl cv_X15_107 v0 (u_X12_has hv he (by decide) (by omega) (by omega)) rfl rfl (Nat.le_of_ble_eq_true rfl) (by decide) ⟨by omega, by omega⟩ ?_
              refine e_if_ne 355 351 dX15_refusal_348 rfl rfl (fun c348 => ?_) (fun c348 => ?_)
              · have k348 := jb_ne_t c348
                refine e_aload_n 356 dX15_refusal_355 rfl rfl ?_
                refine e_aload_n 357 dX15_refusal_356 rfl rfl ?_
                refine e_iconst 358 (v := (nI 1)) dX15_refusal_357 rfl (by decide) ?_
                refine u_callS 361 dX15_refusal_358 rfl cs_X15_85 (u_X15_two hR (k := 1) (by omega) (by omega)) rfl rfl (Nat.le_of_ble_eq_true rfl) (by decide) ⟨by omega, by omega⟩ ?_
                have w358 := wd_lt (k := 1) hq
                refine e_aload_n 362 dX15_refusal_361 rfl rfl ?_
                refine e_iconst 363 (v := (nI 3)) dX15_refusal_362 rfl (by decide) ?_
                refine u_callS 366 dX15_refusal_363 rfl cs_X15_85 (u_X15_two hR (k := 3) (by omega) (by omega)) rfl rfl (Nat.le_of_ble_eq_true rfl) (by decide) ⟨by omega, by omega⟩ ?_
                have w363 := wd_lt (k := 3) hq
                refine u_callV 369 dX15_refusal_366 rfl cv_X15_111 v0 (u_X12_may hv he h8 (by omega) (by omega)) rfl rfl (Nat.le_of_ble_eq_true rfl) (by decide) ⟨by omega, by omega⟩ ?_
                refine e_if_eq 376 372 dX15_refusal_369 rfl rfl (fun c369 => ?_) (fun c369 => ?_)
                · have k369 := jb_eq_t c369
                  refine e_iconst 377 (v := (nI 3)) dX15_refusal_376 rfl (by decide) ?_
                  exact e_iret dX15_refusal_377 rfl (by omega) (by omega) (⟨by rw [show rfA s q = 3 by (rw [rfA, if_neg (fun z => z h51), fhF, if_neg (by omega), if_neg (by omega), if_neg (by omega), if_neg (by omega), if_neg (by omega), if_pos (by omega)]; rw [rgF, ← plZ_plI (s := s) (k := 2) (a := wd q 1) (m := 1) (by omega) (by omega), k348, if_pos rfl, all1 (P := fun i => mbg (dM s) (s.1 8) (wd q 1 + i) (wd q (3 + 2 * i))) k369] <;> rfl)], rfl⟩)
                · have k369 := jb_eq_f c369
                  refine e_iconst 373 (v := (nI 0)) dX15_refusal_372 rfl (by decide) ?_
                  refine e_goto 377 dX15_refusal_373 rfl ?_
                  exact e_iret dX15_refusal_377 rfl (by omega) (by omega) (⟨by rw [show rfA s q = 0 by (rw [rfA, if_neg (fun z => z h51), fhF, if_neg (by omega), if_neg (by omega), if_neg (by omega), if_neg (by omega), if_neg (by omega), if_pos (by omega)]; rw [rgF, ← plZ_plI (s := s) (k := 2) (a := wd q 1) (m := 1) (by omega) (by omega), k348, if_pos rfl, all1 (P := fun i => mbg (dM s) (s.1 8) (wd q 1 + i) (wd q (3 + 2 * i))) k369] <;> rfl)], rfl⟩)
              · have k348 := jb_ne_f c348
                refine e_iconst 352 (v := (nI 2)) dX15_refusal_351 rfl (by decide) ?_
                refine e_goto 377 dX15_refusal_352 rfl ?_
                exact e_iret dX15_refusal_377 rfl (by omega) (by omega) (⟨by rw [show rfA s q = 2 by (rw [rfA, if_neg (fun z => z h51), fhF, if_neg (by omega), if_neg (by omega), if_neg (by omega), if_neg (by omega), if_neg (by omega), if_pos (by omega)]; rw [rgF, ← plZ_plI (s := s) (k := 2) (a := wd q 1) (m := 1) (by omega) (by omega), k348] <;> rfl)], rfl⟩)
            · refine e_tableIn 627 (off := 570) dX15_refusal_57 (by rw [nI_toInt (by omega)]; omega) (by rw [nI_toInt (by omega)]; omega) (by rcases s57 with s57 | s57 | s57 | s57 | s57 | s57 | s57 | s57 | s57 | s57 | s57 | s57 | s57 | s57 | s57 | s57 | s57 | s57 | s57 | s57 | s57 | s57 | s57 | s57 | s57 | s57 | s57 | s57 | s57 <;> rw [s57] <;> decide) rfl ?_
              refine e_iconst 628 (v := (nI 0)) dX15_refusal_627 rfl (by decide) ?_
              exact e_iret dX15_refusal_628 rfl (by omega) (by omega) (⟨by rw [show rfA s q = 0 by (rw [rfA, if_neg (fun z => z h51), fhF, if_neg (by omega), if_neg (by omega), if_neg (by omega), if_neg (by omega), if_neg (by omega), if_neg (by omega), if_neg (by omega), if_neg (by omega), if_neg (by omega), if_neg (by omega), if_neg (by omega), if_neg (by omega), if_neg (by omega)])], rfl⟩)
            · refine e_tableIn 378 (off := 321) dX15_refusal_57 (by rw [nI_toInt (by omega)]; omega) (by rw [nI_toInt (by omega)]; omega) (by rw [s57]; decide) rfl ?_
              have g9 := sh_15 (q := q) (by omega) h51
              refine e_aload_n 379 dX15_refusal_378 rfl rfl ?_
              refine e_iconst 380 (v := (nI 0)) dX15_refusal_379 rfl (by decide) ?_
              refine e_aload_n 381 dX15_refusal_380 rfl rfl ?_
              refine e_iconst 382 (v := (nI 1)) dX15_refusal_381 rfl (by decide) ?_
              refine u_callS 385 dX15_refusal_382 rfl cs_X15_85 (u_X15_two hR (k := 1) (by omega) (by omega)) rfl rfl (Nat.le_of_ble_eq_true rfl) (by decide) ⟨by omega, by omega⟩ ?_
              have w382 := wd_lt (k := 1) hq
              refine e_aload_n 386 dX15_refusal_385 rfl rfl ?_
              refine e_iconst 387 (v := (nI 3)) dX15_refusal_386 rfl (by decide) ?_
              refine u_callS 390 dX15_refusal_387 rfl cs_X15_85 (u_X15_two hR (k := 3) (by omega) (by omega)) rfl rfl (Nat.le_of_ble_eq_true rfl) (by decide) ⟨by omega, by omega⟩ ?_
              have w387 := wd_lt (k := 3) hq
              refine u_callV 393 dX15_refusal_390 rfl cv_X15_107 v0 (u_X12_has hv he (by decide) (by omega) (by omega)) rfl rfl (Nat.le_of_ble_eq_true rfl) (by decide) ⟨by omega, by omega⟩ ?_
              refine e_if_eq 400 396 dX15_refusal_393 rfl rfl (fun c393 => ?_) (fun c393 => ?_)
              · have k393 := jb_eq_t c393
                refine e_iconst 401 (v := (nI 2)) dX15_refusal_400 rfl (by decide) ?_
                exact e_iret dX15_refusal_401 rfl (by omega) (by omega) (⟨by rw [show rfA s q = 2 by (rw [rfA, if_neg (fun z => z h51), fhF, if_pos (by omega)]; rw [← plZ_plI (s := s) (k := 0) (a := wd q 1) (m := wd q 3) (by omega) (by omega), k393] <;> rfl)], rfl⟩)
              · have k393 := jb_eq_f c393
                refine e_iconst 397 (v := (nI 0)) dX15_refusal_396 rfl (by decide) ?_
                refine e_goto 401 dX15_refusal_397 rfl ?_
                exact e_iret dX15_refusal_401 rfl (by omega) (by omega) (⟨by rw [show rfA s q = 0 by (rw [rfA, if_neg (fun z => z h51), fhF, if_pos (by omega)]; rw [← plZ_plI (s := s) (k := 0) (a := wd q 1) (m := wd q 3) (by omega) (by omega), k393] <;> rfl)], rfl⟩)
            · refine e_tableIn 402 (off := 345) dX15_refusal_57 (by rw [nI_toInt (by omega)]; omega) (by rw [nI_toInt (by omega)]; omega) (by rw [s57]; decide) rfl ?_
              have g9 := sh_16 (q := q) (by omega) h51
              refine e_aload_n 403 dX15_refusal_402 rfl rfl ?_
              refine e_iconst 404 (v := (nI 2)) dX15_refusal_403 rfl (by decide) ?_
              refine e_aload_n 405 dX15_refusal_404 rfl rfl ?_
              refine e_iconst 406 (v := (nI 1)) dX15_refusal_405 rfl (by decide) ?_
              refine u_callS 409 dX15_refusal_406 rfl cs_X15_85 (u_X15_two hR (k := 1) (by omega) (by omega)) rfl rfl (Nat.le_of_ble_eq_true rfl) (by decide) ⟨by omega, by omega⟩ ?_
              have w406 := wd_lt (k := 1) hq
              refine e_aload_n 410 dX15_refusal_409 rfl rfl ?_
              refine e_iconst 411 (v := (nI 3)) dX15_refusal_410 rfl (by decide) ?_
              refine u_callS 414 dX15_refusal_411 rfl cs_X15_85 (u_X15_two hR (k := 3) (by omega) (by omega)) rfl rfl (Nat.le_of_ble_eq_true rfl) (by decide) ⟨by omega, by omega⟩ ?_
              have w411 := wd_lt (k := 3) hq
              refine u_callV 417 dX15_refusal_414 rfl cv_X15_107 v0 (u_X12_has hv he (by decide) (by omega) (by omega)) rfl rfl (Nat.le_of_ble_eq_true rfl) (by decide) ⟨by omega, by omega⟩ ?_
              refine e_if_ne 424 420 dX15_refusal_417 rfl rfl (fun c417 => ?_) (fun c417 => ?_)
              · have k417 := jb_ne_t c417
                refine e_aload_n 425 dX15_refusal_424 rfl rfl ?_
                refine e_aload_n 426 dX15_refusal_425 rfl rfl ?_
                refine e_aload_n 427 dX15_refusal_426 rfl rfl ?_
                refine e_iconst 428 (v := (nI 1)) dX15_refusal_427 rfl (by decide) ?_
                refine u_callS 431 dX15_refusal_428 rfl cs_X15_85 (u_X15_two hR (k := 1) (by omega) (by omega)) rfl rfl (Nat.le_of_ble_eq_true rfl) (by decide) ⟨by omega, by omega⟩ ?_
                have w428 := wd_lt (k := 1) hq
                refine e_aload_n 432 dX15_refusal_431 rfl rfl ?_
                refine e_iconst 433 (v := (nI 3)) dX15_refusal_432 rfl (by decide) ?_
                refine u_callS 436 dX15_refusal_433 rfl cs_X15_85 (u_X15_two hR (k := 3) (by omega) (by omega)) rfl rfl (Nat.le_of_ble_eq_true rfl) (by decide) ⟨by omega, by omega⟩ ?_
                have w433 := wd_lt (k := 3) hq
                refine e_bipush 438 (v := (nI 6)) dX15_refusal_436 rfl (by decide) ?_
                refine u_callS 441 dX15_refusal_438 rfl cs_X15_115 (u_X15_mays hv he hok hR hqn hq h1 hl9 (by omega) (by omega) (by omega)) rfl rfl (Nat.le_of_ble_eq_true rfl) (by decide) ⟨by omega, by omega⟩ ?_
                refine e_if_eq 448 444 dX15_refusal_441 rfl rfl (fun c441 => ?_) (fun c441 => ?_)
                · have k441 := jb_eq_t c441
                  refine e_iconst 449 (v := (nI 3)) dX15_refusal_448 rfl (by decide) ?_
                  exact e_iret dX15_refusal_449 rfl (by omega) (by omega) (⟨by rw [show rfA s q = 3 by (rw [rfA, if_neg (fun z => z h51), fhF, if_neg (by omega), if_neg (by omega), if_neg (by omega), if_neg (by omega), if_neg (by omega), if_neg (by omega), if_neg (by omega), if_pos (by omega)]; rw [rgF, ← plZ_plI (s := s) (k := 2) (a := wd q 1) (m := wd q 3) (by omega) (by omega), k417, if_pos rfl, k441] <;> rfl)], rfl⟩)
                · have k441 := jb_eq_f c441
                  refine e_iconst 445 (v := (nI 0)) dX15_refusal_444 rfl (by decide) ?_
                  refine e_goto 449 dX15_refusal_445 rfl ?_
                  exact e_iret dX15_refusal_449 rfl (by omega) (by omega) (⟨by rw [show rfA s q = 0 by (rw [rfA, if_neg (fun z => z h51), fhF, if_neg (by omega), if_neg (by omega), if_neg (by omega), if_neg (by omega), if_neg (by omega), if_neg (by omega), if_neg (by omega), if_pos (by omega)]; rw [rgF, ← plZ_plI (s := s) (k := 2) (a := wd q 1) (m := wd q 3) (by omega) (by omega), k417, if_pos rfl, k441] <;> rfl)], rfl⟩)
              · have k417 := jb_ne_f c417
                refine e_iconst 421 (v := (nI 2)) dX15_refusal_420 rfl (by decide) ?_
                refine e_goto 449 dX15_refusal_421 rfl ?_
                exact e_iret dX15_refusal_449 rfl (by omega) (by omega) (⟨by rw [show rfA s q = 2 by (rw [rfA, if_neg (fun z => z h51), fhF, if_neg (by omega), if_neg (by omega), if_neg (by omega), if_neg (by omega), if_neg (by omega), if_neg (by omega), if_neg (by omega), if_pos (by omega)]; rw [rgF, ← plZ_plI (s := s) (k := 2) (a := wd q 1) (m := wd q 3) (by omega) (by omega), k417] <;> rfl)], rfl⟩)
            · refine e_tableIn 450 (off := 393) dX15_refusal_57 (by rw [nI_toInt (by omega)]; omega) (by rw [nI_toInt (by omega)]; omega) (by rcases s57 with s57 | s57 <;> rw [s57] <;> decide) rfl ?_
              refine e_aload_n 451 dX15_refusal_450 rfl rfl ?_
              refine e_aload_n 452 dX15_refusal_451 rfl rfl ?_
              refine e_iload_n 453 dX15_refusal_452 rfl rfl ?_
              refine u_callS 456 dX15_refusal_453 rfl cs_X15_119 (u_X15_parts hv he hok hR hqn hq h1 hl9 (vb := (if q.getD 0 0 = 21 then 2 else 0)) ⟨fun z => if_pos z, fun z => if_neg z⟩ (sh_p (by omega) h51)) rfl rfl (Nat.le_of_ble_eq_true rfl) (by decide) ⟨by omega, by omega⟩ ?_
              exact e_iret dX15_refusal_456 rfl (by omega) (by omega) (⟨by rw [show rfA s q = (ffF (dS s 0) q (if q.getD 0 0 = 21 then 2 else 0) 36 2) by rw [rfA, if_neg (fun z => z h51), fhF, if_neg (by omega), if_neg (by omega), if_neg (by omega), if_neg (by omega), if_neg (by omega), if_neg (by omega), if_neg (by omega), if_neg (by omega), if_pos (by omega)]], rfl⟩)
            · refine e_tableIn 457 (off := 400) dX15_refusal_57 (by rw [nI_toInt (by omega)]; omega) (by rw [nI_toInt (by omega)]; omega) (by rw [s57]; decide) rfl ?_
              have g9 := sh_22 (q := q) (by omega) h51
              refine e_aload_n 458 dX15_refusal_457 rfl rfl ?_
              refine e_iconst 459 (v := (nI 2)) dX15_refusal_458 rfl (by decide) ?_
              refine e_aload_n 460 dX15_refusal_459 rfl rfl ?_
              refine e_iconst 461 (v := (nI 1)) dX15_refusal_460 rfl (by decide) ?_
              refine u_callS 464 dX15_refusal_461 rfl cs_X15_85 (u_X15_two hR (k := 1) (by omega) (by omega)) rfl rfl (Nat.le_of_ble_eq_true rfl) (by decide) ⟨by omega, by omega⟩ ?_
              have w461 := wd_lt (k := 1) hq
              refine e_iconst 465 (v := (nI 1)) dX15_refusal_464 rfl (by decide) ?_
              refine u_callV 468 dX15_refusal_465 rfl cv_X15_107 v0 (u_X12_has hv he (by decide) (by omega) (by omega)) rfl rfl (Nat.le_of_ble_eq_true rfl) (by decide) ⟨by omega, by omega⟩ ?_
              refine e_if_ne 475 471 dX15_refusal_468 rfl rfl (fun c468 => ?_) (fun c468 => ?_)
              · have k468 := jb_ne_t c468
                refine e_aload_n 476 dX15_refusal_475 rfl rfl ?_
                refine e_aload_n 477 dX15_refusal_476 rfl rfl ?_
                refine e_iconst 478 (v := (nI 1)) dX15_refusal_477 rfl (by decide) ?_
                refine u_callS 481 dX15_refusal_478 rfl cs_X15_85 (u_X15_two hR (k := 1) (by omega) (by omega)) rfl rfl (Nat.le_of_ble_eq_true rfl) (by decide) ⟨by omega, by omega⟩ ?_
                have w478 := wd_lt (k := 1) hq
                refine e_aload_n 482 dX15_refusal_481 rfl rfl ?_
                refine e_aload_n 483 dX15_refusal_482 rfl rfl ?_
                refine u_callS 486 dX15_refusal_483 rfl cs_X15_123 (u_X15_masked hv he hok hR hqn hq h1 hl9 (by omega) (plZ_1 k468)) rfl rfl (Nat.le_of_ble_eq_true rfl) (by decide) ⟨by omega, by omega⟩ ?_
                have hm9 := mkN_lt (v := (dL s 2).getD (wd q 1 - dF s 2) 0) (a := wd q 3) (o := wd q 5) (gd_lt (okD_L hok 2) (by decide)) (wd_lt hq)
                refine u_callV 489 dX15_refusal_486 rfl cv_X15_111 v0 (u_X12_may hv he h8 (by omega) (by omega)) rfl rfl (Nat.le_of_ble_eq_true rfl) (by decide) ⟨by omega, by omega⟩ ?_
                refine e_if_eq 496 492 dX15_refusal_489 rfl rfl (fun c489 => ?_) (fun c489 => ?_)
                · have k489 := jb_eq_t c489
                  refine e_iconst 497 (v := (nI 3)) dX15_refusal_496 rfl (by decide) ?_
                  exact e_iret dX15_refusal_497 rfl (by omega) (by omega) (⟨by rw [show rfA s q = 3 by (rw [rfA, if_neg (fun z => z h51), fhF, if_neg (by omega), if_neg (by omega), if_neg (by omega), if_neg (by omega), if_neg (by omega), if_neg (by omega), if_neg (by omega), if_neg (by omega), if_neg (by omega), if_pos (by omega)]; rw [mfF, ← plZ_plI (s := s) (k := 2) (a := wd q 1) (m := 1) (by omega) (by omega), k468, if_pos rfl, k489] <;> rfl)], rfl⟩)
                · have k489 := jb_eq_f c489
                  refine e_iconst 493 (v := (nI 0)) dX15_refusal_492 rfl (by decide) ?_
                  refine e_goto 497 dX15_refusal_493 rfl ?_
                  exact e_iret dX15_refusal_497 rfl (by omega) (by omega) (⟨by rw [show rfA s q = 0 by (rw [rfA, if_neg (fun z => z h51), fhF, if_neg (by omega), if_neg (by omega), if_neg (by omega), if_neg (by omega), if_neg (by omega), if_neg (by omega), if_neg (by omega), if_neg (by omega), if_neg (by omega), if_pos (by omega)]; rw [mfF, ← plZ_plI (s := s) (k := 2) (a := wd q 1) (m := 1) (by omega) (by omega), k468, if_pos rfl, k489] <;> rfl)], rfl⟩)
              · have k468 := jb_ne_f c468
                refine e_iconst 472 (v := (nI 2)) dX15_refusal_471 rfl (by decide) ?_
                refine e_goto 497 dX15_refusal_472 rfl ?_
                exact e_iret dX15_refusal_497 rfl (by omega) (by omega) (⟨by rw [show rfA s q = 2 by (rw [rfA, if_neg (fun z => z h51), fhF, if_neg (by omega), if_neg (by omega), if_neg (by omega), if_neg (by omega), if_neg (by omega), if_neg (by omega), if_neg (by omega), if_neg (by omega), if_neg (by omega), if_pos (by omega)]; rw [mfF, ← plZ_plI (s := s) (k := 2) (a := wd q 1) (m := 1) (by omega) (by omega), k468] <;> rfl)], rfl⟩)
            · refine e_tableIn 498 (off := 441) dX15_refusal_57 (by rw [nI_toInt (by omega)]; omega) (by rw [nI_toInt (by omega)]; omega) (by rw [s57]; decide) rfl ?_
              have g9 := sh_23 (q := q) (by omega) h51
              refine e_aload_n 499 dX15_refusal_498 rfl rfl ?_
              refine e_iconst 500 (v := (nI 2)) dX15_refusal_499 rfl (by decide) ?_
              refine e_aload_n 501 dX15_refusal_500 rfl rfl ?_
              refine e_iconst 502 (v := (nI 1)) dX15_refusal_501 rfl (by decide) ?_
              refine u_callS 505 dX15_refusal_502 rfl cs_X15_85 (u_X15_two hR (k := 1) (by omega) (by omega)) rfl rfl (Nat.le_of_ble_eq_true rfl) (by decide) ⟨by omega, by omega⟩ ?_
              have w502 := wd_lt (k := 1) hq
              refine e_aload_n 506 dX15_refusal_505 rfl rfl ?_
              refine e_iconst 507 (v := (nI 3)) dX15_refusal_506 rfl (by decide) ?_
              refine u_callS 510 dX15_refusal_507 rfl cs_X15_85 (u_X15_two hR (k := 3) (by omega) (by omega)) rfl rfl (Nat.le_of_ble_eq_true rfl) (by decide) ⟨by omega, by omega⟩ ?_
              have w507 := wd_lt (k := 3) hq
              refine u_callV 513 dX15_refusal_510 rfl cv_X15_107 v0 (u_X12_has hv he (by decide) (by omega) (by omega)) rfl rfl (Nat.le_of_ble_eq_true rfl) (by decide) ⟨by omega, by omega⟩ ?_
              refine e_if_eq 535 516 dX15_refusal_513 rfl rfl (fun c513 => ?_) (fun c513 => ?_)
              · have k513 := jb_eq_t c513
                refine e_iconst 536 (v := (nI 2)) dX15_refusal_535 rfl (by decide) ?_
                exact e_iret dX15_refusal_536 rfl (by omega) (by omega) (⟨by rw [show rfA s q = 2 by (rw [rfA, if_neg (fun z => z h51), fhF, if_neg (by omega), if_neg (by omega), if_neg (by omega), if_neg (by omega), if_neg (by omega), if_neg (by omega), if_neg (by omega), if_neg (by omega), if_neg (by omega), if_neg (by omega), if_pos (by omega)]; rw [← plZ_plI (s := s) (k := 2) (a := wd q 1) (m := wd q 3) (by omega) (by omega), k513] <;> rfl)], rfl⟩)
              · have k513 := jb_eq_f c513
                refine e_aload_n 517 dX15_refusal_516 rfl rfl ?_
                refine e_iconst 518 (v := (nI 2)) dX15_refusal_517 rfl (by decide) ?_
                refine e_aload_n 519 dX15_refusal_518 rfl rfl ?_
                refine e_iconst 520 (v := (nI 5)) dX15_refusal_519 rfl (by decide) ?_
                refine u_callS 523 dX15_refusal_520 rfl cs_X15_85 (u_X15_two hR (k := 5) (by omega) (by omega)) rfl rfl (Nat.le_of_ble_eq_true rfl) (by decide) ⟨by omega, by omega⟩ ?_
                have w520 := wd_lt (k := 5) hq
                refine e_aload_n 524 dX15_refusal_523 rfl rfl ?_
                refine e_bipush 526 (v := (nI 7)) dX15_refusal_524 rfl (by decide) ?_
                refine u_callS 529 dX15_refusal_526 rfl cs_X15_85 (u_X15_two hR (k := 7) (by omega) (by omega)) rfl rfl (Nat.le_of_ble_eq_true rfl) (by decide) ⟨by omega, by omega⟩ ?_
                have w526 := wd_lt (k := 7) hq
                refine u_callV 532 dX15_refusal_529 rfl cv_X15_107 v0 (u_X12_has hv he (by decide) (by omega) (by omega)) rfl rfl (Nat.le_of_ble_eq_true rfl) (by decide) ⟨by omega, by omega⟩ ?_
                refine e_if_ne 537 535 dX15_refusal_532 rfl rfl (fun c532 => ?_) (fun c532 => ?_)
                · have k532 := jb_ne_t c532
                  refine e_aload_n 538 dX15_refusal_537 rfl rfl ?_
                  refine e_aload_n 539 dX15_refusal_538 rfl rfl ?_
                  refine e_aload_n 540 dX15_refusal_539 rfl rfl ?_
                  refine e_iconst 541 (v := (nI 5)) dX15_refusal_540 rfl (by decide) ?_
                  refine u_callS 544 dX15_refusal_541 rfl cs_X15_85 (u_X15_two hR (k := 5) (by omega) (by omega)) rfl rfl (Nat.le_of_ble_eq_true rfl) (by decide) ⟨by omega, by omega⟩ ?_
                  have w541 := wd_lt (k := 5) hq
                  refine e_aload_n 545 dX15_refusal_544 rfl rfl ?_
                  refine e_bipush 547 (v := (nI 7)) dX15_refusal_545 rfl (by decide) ?_
                  refine u_callS 550 dX15_refusal_547 rfl cs_X15_85 (u_X15_two hR (k := 7) (by omega) (by omega)) rfl rfl (Nat.le_of_ble_eq_true rfl) (by decide) ⟨by omega, by omega⟩ ?_
                  have w547 := wd_lt (k := 7) hq
                  refine e_bipush 552 (v := (nI 10)) dX15_refusal_550 rfl (by decide) ?_
                  refine u_callS 555 dX15_refusal_552 rfl cs_X15_115 (u_X15_mays hv he hok hR hqn hq h1 hl9 (by omega) (by omega) (by omega)) rfl rfl (Nat.le_of_ble_eq_true rfl) (by decide) ⟨by omega, by omega⟩ ?_
                  refine e_if_eq 562 558 dX15_refusal_555 rfl rfl (fun c555 => ?_) (fun c555 => ?_)
                  · have k555 := jb_eq_t c555
                    refine e_iconst 563 (v := (nI 3)) dX15_refusal_562 rfl (by decide) ?_
                    exact e_iret dX15_refusal_563 rfl (by omega) (by omega) (⟨by rw [show rfA s q = 3 by (rw [rfA, if_neg (fun z => z h51), fhF, if_neg (by omega), if_neg (by omega), if_neg (by omega), if_neg (by omega), if_neg (by omega), if_neg (by omega), if_neg (by omega), if_neg (by omega), if_neg (by omega), if_neg (by omega), if_pos (by omega)]; rw [← plZ_plI (s := s) (k := 2) (a := wd q 1) (m := wd q 3) (by omega) (by omega), k513, if_pos rfl, rgF, ← plZ_plI (s := s) (k := 2) (a := wd q 5) (m := wd q 7) (by omega) (by omega), k532, if_pos rfl, k555] <;> rfl)], rfl⟩)
                  · have k555 := jb_eq_f c555
                    refine e_iconst 559 (v := (nI 0)) dX15_refusal_558 rfl (by decide) ?_
                    refine e_goto 563 dX15_refusal_559 rfl ?_
                    exact e_iret dX15_refusal_563 rfl (by omega) (by omega) (⟨by rw [show rfA s q = 0 by (rw [rfA, if_neg (fun z => z h51), fhF, if_neg (by omega), if_neg (by omega), if_neg (by omega), if_neg (by omega), if_neg (by omega), if_neg (by omega), if_neg (by omega), if_neg (by omega), if_neg (by omega), if_neg (by omega), if_pos (by omega)]; rw [← plZ_plI (s := s) (k := 2) (a := wd q 1) (m := wd q 3) (by omega) (by omega), k513, if_pos rfl, rgF, ← plZ_plI (s := s) (k := 2) (a := wd q 5) (m := wd q 7) (by omega) (by omega), k532, if_pos rfl, k555] <;> rfl)], rfl⟩)
                · have k532 := jb_ne_f c532
                  refine e_iconst 536 (v := (nI 2)) dX15_refusal_535 rfl (by decide) ?_
                  exact e_iret dX15_refusal_536 rfl (by omega) (by omega) (⟨by rw [show rfA s q = 2 by (rw [rfA, if_neg (fun z => z h51), fhF, if_neg (by omega), if_neg (by omega), if_neg (by omega), if_neg (by omega), if_neg (by omega), if_neg (by omega), if_neg (by omega), if_neg (by omega), if_neg (by omega), if_neg (by omega), if_pos (by omega)]; rw [← plZ_plI (s := s) (k := 2) (a := wd q 1) (m := wd q 3) (by omega) (by omega), k513, if_pos rfl, rgF, ← plZ_plI (s := s) (k := 2) (a := wd q 5) (m := wd q 7) (by omega) (by omega), k532] <;> rfl)], rfl⟩)
            · refine e_tableIn 564 (off := 507) dX15_refusal_57 (by rw [nI_toInt (by omega)]; omega) (by rw [nI_toInt (by omega)]; omega) (by rw [s57]; decide) rfl ?_
              have g9 := sh_24 (q := q) (by omega) h51
              refine e_aload_n 565 dX15_refusal_564 rfl rfl ?_
              refine e_aload_n 566 dX15_refusal_565 rfl rfl ?_
              refine e_iconst 567 (v := (nI 1)) dX15_refusal_566 rfl (by decide) ?_
              refine u_callS 570 dX15_refusal_567 rfl cs_X15_85 (u_X15_two hR (k := 1) (by omega) (by omega)) rfl rfl (Nat.le_of_ble_eq_true rfl) (by decide) ⟨by omega, by omega⟩ ?_
              have w567 := wd_lt (k := 1) hq
              refine u_callV 573 dX15_refusal_570 rfl cv_X15_127 v0 (u_X12_queueOf hv he) rfl rfl (Nat.le_of_ble_eq_true rfl) (by decide) ⟨by omega, by omega⟩ ?_
              rcases hx570 : ixM (dS s 1) (nI (wd q 1)) with _ | i570
              · have n570 := hx570
                refine e_istore 575 (ls' := [some (.ref d), some (.ref a), some (.int (nI q.length)), some (.int (nI (q.getD 0 0))), some (.int (-1))]) dX15_refusal_573 rfl (by decide) rfl ?_
                refine e_iload 577 dX15_refusal_575 rfl rfl ?_
                refine e_iconst 578 (v := (-1)) dX15_refusal_577 rfl (by decide) ?_
                refine e_icmp_ne 585 581 dX15_refusal_578 rfl rfl (fun c578 => absurd c578 (fun z => z rfl)) (fun c578 => ?_)
                refine e_iconst 582 (v := (nI 2)) dX15_refusal_581 rfl (by decide) ?_
                refine e_goto 602 dX15_refusal_582 rfl ?_
                exact e_iret dX15_refusal_602 rfl (by omega) (by omega) (⟨by rw [show rfA s q = 2 by (rw [rfA, if_neg (fun z => z h51), fhF, if_neg (by omega), if_neg (by omega), if_neg (by omega), if_neg (by omega), if_neg (by omega), if_neg (by omega), if_neg (by omega), if_neg (by omega), if_neg (by omega), if_neg (by omega), if_neg (by omega), if_pos (by omega)]; rw [qfF, n570])], rfl⟩)
              · have l570 := ixM_lt hx570
                have hrl := shO_at hsh.2.1 (by decide) i570
                refine e_istore 575 (ls' := [some (.ref d), some (.ref a), some (.int (nI q.length)), some (.int (nI (q.getD 0 0))), some (.int (nI i570))]) dX15_refusal_573 rfl (by decide) rfl ?_
                refine e_iload 577 dX15_refusal_575 rfl rfl ?_
                refine e_iconst 578 (v := (-1)) dX15_refusal_577 rfl (by decide) ?_
                refine e_icmp_ne 585 581 dX15_refusal_578 rfl rfl (fun c578 => ?_) (fun c578 => absurd c578 (nI_ne_m1 (by omega)))
                refine e_aload_n 586 dX15_refusal_585 rfl rfl ?_
                refine e_get 589 dX15_refusal_586 rfl fl_X15_131_10 v0 rfl ?_
                refine e_iload 591 dX15_refusal_589 rfl rfl ?_
                refine v_iald 592 v13 (k := i570) (x := (rwM (dS s 1) i570).length) dX15_refusal_591 rfl (by simp only [szs_len] <;> omega) (by omega) szs_at ?_
                refine e_bipush 594 (v := (nI 31)) dX15_refusal_592 rfl (by decide) ?_
                refine e_icmp_le 601 597 dX15_refusal_594 rfl rfl (fun c594 => ?_) (fun c594 => ?_)
                · have k594 := j_le_t (a := ((rwM (dS s 1) i570).length)) (b := 31) (by omega) (by omega) c594
                  refine e_iconst 602 (v := (nI 0)) dX15_refusal_601 rfl (by decide) ?_
                  exact e_iret dX15_refusal_602 rfl (by omega) (by omega) (⟨by rw [show rfA s q = 0 by (rw [rfA, if_neg (fun z => z h51), fhF, if_neg (by omega), if_neg (by omega), if_neg (by omega), if_neg (by omega), if_neg (by omega), if_neg (by omega), if_neg (by omega), if_neg (by omega), if_neg (by omega), if_neg (by omega), if_neg (by omega), if_pos (by omega)]; rw [qfF, hx570]; exact if_neg (by omega))], rfl⟩)
                · have k594 := j_le_f (a := ((rwM (dS s 1) i570).length)) (b := 31) (by omega) (by omega) c594
                  refine e_iconst 598 (v := (nI 3)) dX15_refusal_597 rfl (by decide) ?_
                  refine e_goto 602 dX15_refusal_598 rfl ?_
                  exact e_iret dX15_refusal_602 rfl (by omega) (by omega) (⟨by rw [show rfA s q = 3 by (rw [rfA, if_neg (fun z => z h51), fhF, if_neg (by omega), if_neg (by omega), if_neg (by omega), if_neg (by omega), if_neg (by omega), if_neg (by omega), if_neg (by omega), if_neg (by omega), if_neg (by omega), if_neg (by omega), if_neg (by omega), if_pos (by omega)]; rw [qfF, hx570]; exact if_pos (by omega))], rfl⟩)
            · refine e_tableIn 603 (off := 546) dX15_refusal_57 (by rw [nI_toInt (by omega)]; omega) (by rw [nI_toInt (by omega)]; omega) (by rw [s57]; decide) rfl ?_
              have g9 := sh_43 (q := q) (by omega) h51
              refine e_aload_n 604 dX15_refusal_603 rfl rfl ?_
              refine e_iconst 605 (v := (nI 2)) dX15_refusal_604 rfl (by decide) ?_
              have b605 := gd_lt (i := 2) hq (by decide)
              refine v_iald 606 hR (k := 2) (x := (q.getD 2 0)) dX15_refusal_605 rfl (by omega) (by omega) rfl ?_
              refine e_iconst 607 (v := (nI 4)) dX15_refusal_606 rfl (by decide) ?_
              refine e_icmp_ne 625 610 dX15_refusal_607 rfl rfl (fun c607 => ?_) (fun c607 => ?_)
              · have k607 := j_ne_t (a := (q.getD 2 0)) (b := 4) (by omega) (by omega) c607
                refine e_iconst 626 (v := (nI 0)) dX15_refusal_625 rfl (by decide) ?_
                exact e_iret dX15_refusal_626 rfl (by omega) (by omega) (⟨by rw [show rfA s q = 0 by (rw [rfA, if_neg (fun z => z h51), fhF, if_neg (by omega), if_neg (by omega), if_neg (by omega), if_neg (by omega), if_neg (by omega), if_neg (by omega), if_neg (by omega), if_neg (by omega), if_neg (by omega), if_neg (by omega), if_neg (by omega), if_neg (by omega), if_pos (by omega)]; exact if_neg (fun z => k607 z.1))], rfl⟩)
              · have k607 := j_ne_f (a := (q.getD 2 0)) (b := 4) (by omega) (by omega) c607
                refine e_aload_n 611 dX15_refusal_610 rfl rfl ?_
                refine e_aload_n 612 dX15_refusal_611 rfl rfl ?_
                refine e_iconst 613 (v := (nI 3)) dX15_refusal_612 rfl (by decide) ?_
                have b613 := gd_lt (i := 3) hq (by decide)
                refine v_iald 614 hR (k := 3) (x := (q.getD 3 0)) dX15_refusal_613 rfl (by omega) (by omega) rfl ?_
                refine u_callV 617 dX15_refusal_614 rfl cv_X15_134 v0 (u_X12_textOf hv he) rfl rfl (Nat.le_of_ble_eq_true rfl) (by decide) ⟨by omega, by omega⟩ ?_
                rcases hx614 : ixM (sortT (dS s 2)) (nI (q.getD 3 0)) with _ | i614
                · have n614 := hx614
                  refine e_iconst 618 (v := (-1)) dX15_refusal_617 rfl (by decide) ?_
                  refine e_icmp_ne 625 621 dX15_refusal_618 rfl rfl (fun c618 => absurd c618 (fun z => z rfl)) (fun c618 => ?_)
                  refine e_iconst 622 (v := (nI 2)) dX15_refusal_621 rfl (by decide) ?_
                  refine e_goto 626 dX15_refusal_622 rfl ?_
                  exact e_iret dX15_refusal_626 rfl (by omega) (by omega) (⟨by rw [show rfA s q = 2 by (rw [rfA, if_neg (fun z => z h51), fhF, if_neg (by omega), if_neg (by omega), if_neg (by omega), if_neg (by omega), if_neg (by omega), if_neg (by omega), if_neg (by omega), if_neg (by omega), if_neg (by omega), if_neg (by omega), if_neg (by omega), if_neg (by omega), if_pos (by omega)]; exact if_pos ⟨by omega, ixM_sort.mp n614⟩)], rfl⟩)
                · have l614 := ixM_lt hx614
                  rw [sortT_len] at l614
                  refine e_iconst 618 (v := (-1)) dX15_refusal_617 rfl (by decide) ?_
                  refine e_icmp_ne 625 621 dX15_refusal_618 rfl rfl (fun c618 => ?_) (fun c618 => absurd c618 (nI_ne_m1 (by omega)))
                  refine e_iconst 626 (v := (nI 0)) dX15_refusal_625 rfl (by decide) ?_
                  exact e_iret dX15_refusal_626 rfl (by omega) (by omega) (⟨by rw [show rfA s q = 0 by (rw [rfA, if_neg (fun z => z h51), fhF, if_neg (by omega), if_neg (by omega), if_neg (by omega), if_neg (by omega), if_neg (by omega), if_neg (by omega), if_neg (by omega), if_neg (by omega), if_neg (by omega), if_neg (by omega), if_neg (by omega), if_neg (by omega), if_pos (by omega)]; exact if_neg (fun z => by rw [ixM_sort.mpr z.2] at hx614; cases hx614))], rfl⟩)
          · have k51 := jb_ne_f c51
            have h51 : shF q ≠ 0 := of_decide_eq_false k51
            refine e_iconst 55 (v := (nI 3)) dX15_refusal_54 rfl (by decide) ?_
            exact e_iret dX15_refusal_55 rfl (by omega) (by omega) (⟨by rw [show rfA s q = 3 by (rw [rfA, if_pos h51]; exact (sh_03 t8 (by omega) (by omega)).resolve_left h51)], rfl⟩)
        · have k33 := j_le_f (a := q.length) (b := 1) (by omega) (by omega) c33
          refine e_aload_n 37 dX15_refusal_36 rfl rfl ?_
          refine e_iconst 38 (v := (nI 1)) dX15_refusal_37 rfl (by decide) ?_
          have b38 := gd_lt (i := 1) hq (by decide)
          refine v_iald 39 hR (k := 1) (x := (q.getD 1 0)) dX15_refusal_38 rfl (by omega) (by omega) rfl ?_
          refine e_bipush 41 (v := (nI 14)) dX15_refusal_39 rfl (by decide) ?_
          refine e_icmp_eq 46 44 dX15_refusal_41 rfl rfl (fun c41 => ?_) (fun c41 => ?_)
          · have k41 := j_eq_t (a := (q.getD 1 0)) (b := 14) (by omega) (by omega) c41
            refine e_aload_n 47 dX15_refusal_46 rfl rfl ?_
            refine e_iload_n 48 dX15_refusal_47 rfl rfl ?_
            refine u_callS 51 dX15_refusal_48 rfl cs_X15_103 (u_X15_isShaped hR hqn hq h1) rfl rfl (Nat.le_of_ble_eq_true rfl) (by decide) ⟨by omega, by omega⟩ ?_
            refine e_if_ne 56 54 dX15_refusal_51 rfl rfl (fun c51 => ?_) (fun c51 => ?_)
            · have k51 := jb_ne_t c51
              have h51 : shF q = 0 := of_decide_eq_true k51
              refine e_iload_n 57 dX15_refusal_56 rfl rfl ?_
              rcases (show ((q.getD 0 0) < 1 ∨ 43 < (q.getD 0 0)) ∨ ((q.getD 0 0) = 1 ∨ (q.getD 0 0) = 2 ∨ (q.getD 0 0) = 3 ∨ (q.getD 0 0) = 4) ∨ ((q.getD 0 0) = 5) ∨ ((q.getD 0 0) = 6) ∨ ((q.getD 0 0) = 7 ∨ (q.getD 0 0) = 8 ∨ (q.getD 0 0) = 9 ∨ (q.getD 0 0) = 10 ∨ (q.getD 0 0) = 11 ∨ (q.getD 0 0) = 12 ∨ (q.getD 0 0) = 13 ∨ (q.getD 0 0) = 14 ∨ (q.getD 0 0) = 17 ∨ (q.getD 0 0) = 18 ∨ (q.getD 0 0) = 19 ∨ (q.getD 0 0) = 25 ∨ (q.getD 0 0) = 26 ∨ (q.getD 0 0) = 27 ∨ (q.getD 0 0) = 28 ∨ (q.getD 0 0) = 29 ∨ (q.getD 0 0) = 30 ∨ (q.getD 0 0) = 31 ∨ (q.getD 0 0) = 32 ∨ (q.getD 0 0) = 33 ∨ (q.getD 0 0) = 34 ∨ (q.getD 0 0) = 35 ∨ (q.getD 0 0) = 36 ∨ (q.getD 0 0) = 37 ∨ (q.getD 0 0) = 38 ∨ (q.getD 0 0) = 39 ∨ (q.getD 0 0) = 40 ∨ (q.getD 0 0) = 41 ∨ (q.getD 0 0) = 42) ∨ ((q.getD 0 0) = 15) ∨ ((q.getD 0 0) = 16) ∨ ((q.getD 0 0) = 20 ∨ (q.getD 0 0) = 21) ∨ ((q.getD 0 0) = 22) ∨ ((q.getD 0 0) = 23) ∨ ((q.getD 0 0) = 24) ∨ ((q.getD 0 0) = 43) by omega) with s57 | s57 | s57 | s57 | s57 | s57 | s57 | s57 | s57 | s57 | s57 | s57
              · refine e_tableOut 627 dX15_refusal_57 (by rw [nI_toInt (by omega)]; omega) rfl ?_
                refine e_iconst 628 (v := (nI 0)) dX15_refusal_627 rfl (by decide) ?_
                exact e_iret dX15_refusal_628 rfl (by omega) (by omega) (⟨by rw [show rfA s q = 0 by (rw [rfA, if_neg (fun z => z h51), fhF, if_neg (by omega), if_neg (by omega), if_neg (by omega), if_neg (by omega), if_neg (by omega), if_neg (by omega), if_neg (by omega), if_neg (by omega), if_neg (by omega), if_neg (by omega), if_neg (by omega), if_neg (by omega), if_neg (by omega)])], rfl⟩)
              · refine e_tableIn 244 (off := 187) dX15_refusal_57 (by rw [nI_toInt (by omega)]; omega) (by rw [nI_toInt (by omega)]; omega) (by rcases s57 with s57 | s57 | s57 | s57 <;> rw [s57] <;> decide) rfl ?_
                refine e_aload_n 245 dX15_refusal_244 rfl rfl ?_
                refine e_iload_n 246 dX15_refusal_245 rfl rfl ?_
                refine e_iconst 247 (v := (nI 1)) dX15_refusal_246 rfl (by decide) ?_
                refine e_icmp_ne 254 250 dX15_refusal_247 rfl rfl (fun c247 => ?_) (fun c247 => ?_)
                · have k247 := j_ne_t (a := (q.getD 0 0)) (b := 1) (by omega) (by omega) c247
                  refine e_iload_n 255 dX15_refusal_254 rfl rfl ?_
                  refine e_iconst 256 (v := (nI 2)) dX15_refusal_255 rfl (by decide) ?_
                  refine e_icmp_ne 263 259 dX15_refusal_256 rfl rfl (fun c256 => ?_) (fun c256 => ?_)
                  · have k256 := j_ne_t (a := (q.getD 0 0)) (b := 2) (by omega) (by omega) c256
                    refine e_iload_n 264 dX15_refusal_263 rfl rfl ?_
                    refine e_iconst 265 (v := (nI 3)) dX15_refusal_264 rfl (by decide) ?_
                    refine e_icmp_ne 272 268 dX15_refusal_265 rfl rfl (fun c265 => ?_) (fun c265 => ?_)
                    · have k265 := j_ne_t (a := (q.getD 0 0)) (b := 3) (by omega) (by omega) c265
                      refine e_iconst 273 (v := (nI 3)) dX15_refusal_272 rfl (by decide) ?_
                      have g9 := sh_3 (q := q) (by omega) h51
                      refine e_aload_n 274 dX15_refusal_273 rfl rfl ?_
                      refine e_iconst 275 (v := (nI 1)) dX15_refusal_274 rfl (by decide) ?_
                      refine u_callS 278 dX15_refusal_275 rfl cs_X15_85 (u_X15_two hR (k := 1) (by omega) (by omega)) rfl rfl (Nat.le_of_ble_eq_true rfl) (by decide) ⟨by omega, by omega⟩ ?_
                      have w275 := wd_lt (k := 1) hq
                      refine e_aload_n 279 dX15_refusal_278 rfl rfl ?_
                      refine e_iconst 280 (v := (nI 3)) dX15_refusal_279 rfl (by decide) ?_
                      refine u_callS 283 dX15_refusal_280 rfl cs_X15_85 (u_X15_two hR (k := 3) (by omega) (by omega)) rfl rfl (Nat.le_of_ble_eq_true rfl) (by decide) ⟨by omega, by omega⟩ ?_
                      have w280 := wd_lt (k := 3) hq
                      refine u_callV 286 dX15_refusal_283 rfl cv_X15_107 v0 (u_X12_has hv he (by decide) (by omega) (by omega)) rfl rfl (Nat.le_of_ble_eq_true rfl) (by decide) ⟨by omega, by omega⟩ ?_
                      refine e_if_eq 293 289 dX15_refusal_286 rfl rfl (fun c286 => ?_) (fun c286 => ?_)
                      · have k286 := jb_eq_t c286
                        refine e_iconst 294 (v := (nI 2)) dX15_refusal_293 rfl (by decide) ?_
                        exact e_iret dX15_refusal_294 rfl (by omega) (by omega) (⟨by rw [show rfA s q = 2 by (rw [rfA, if_neg (fun z => z h51), fhF, if_neg (by omega), if_neg (by omega), if_neg (by omega), if_pos (by omega)]; rw [← plZ_plI (s := s) (k := 3) (a := wd q 1) (m := wd q 3) (by omega) (by omega), k286] <;> rfl)], rfl⟩)
                      · have k286 := jb_eq_f c286
                        refine e_iconst 290 (v := (nI 0)) dX15_refusal_289 rfl (by decide) ?_
                        refine e_goto 294 dX15_refusal_290 rfl ?_
                        exact e_iret dX15_refusal_294 rfl (by omega) (by omega) (⟨by rw [show rfA s q = 0 by (rw [rfA, if_neg (fun z => z h51), fhF, if_neg (by omega), if_neg (by omega), if_neg (by omega), if_pos (by omega)]; rw [← plZ_plI (s := s) (k := 3) (a := wd q 1) (m := wd q 3) (by omega) (by omega), k286] <;> rfl)], rfl⟩)
                    · have k265 := j_ne_f (a := (q.getD 0 0)) (b := 3) (by omega) (by omega) c265
                      refine e_iconst 269 (v := (nI 2)) dX15_refusal_268 rfl (by decide) ?_
                      refine e_goto 273 dX15_refusal_269 rfl ?_
                      have g9 := sh_3 (q := q) (by omega) h51
                      refine e_aload_n 274 dX15_refusal_273 rfl rfl ?_
                      refine e_iconst 275 (v := (nI 1)) dX15_refusal_274 rfl (by decide) ?_
                      refine u_callS 278 dX15_refusal_275 rfl cs_X15_85 (u_X15_two hR (k := 1) (by omega) (by omega)) rfl rfl (Nat.le_of_ble_eq_true rfl) (by decide) ⟨by omega, by omega⟩ ?_
                      have w275 := wd_lt (k := 1) hq
                      refine e_aload_n 279 dX15_refusal_278 rfl rfl ?_
                      refine e_iconst 280 (v := (nI 3)) dX15_refusal_279 rfl (by decide) ?_
                      refine u_callS 283 dX15_refusal_280 rfl cs_X15_85 (u_X15_two hR (k := 3) (by omega) (by omega)) rfl rfl (Nat.le_of_ble_eq_true rfl) (by decide) ⟨by omega, by omega⟩ ?_
                      have w280 := wd_lt (k := 3) hq
                      refine u_callV 286 dX15_refusal_283 rfl cv_X15_107 v0 (u_X12_has hv he (by decide) (by omega) (by omega)) rfl rfl (Nat.le_of_ble_eq_true rfl) (by decide) ⟨by omega, by omega⟩ ?_
                      refine e_if_eq 293 289 dX15_refusal_286 rfl rfl (fun c286 => ?_) (fun c286 => ?_)
                      · have k286 := jb_eq_t c286
                        refine e_iconst 294 (v := (nI 2)) dX15_refusal_293 rfl (by decide) ?_
                        exact e_iret dX15_refusal_294 rfl (by omega) (by omega) (⟨by rw [show rfA s q = 2 by (rw [rfA, if_neg (fun z => z h51), fhF, if_neg (by omega), if_neg (by omega), if_pos (by omega)]; rw [← plZ_plI (s := s) (k := 2) (a := wd q 1) (m := wd q 3) (by omega) (by omega), k286] <;> rfl)], rfl⟩)
                      · have k286 := jb_eq_f c286
                        refine e_iconst 290 (v := (nI 0)) dX15_refusal_289 rfl (by decide) ?_
                        refine e_goto 294 dX15_refusal_290 rfl ?_
                        exact e_iret dX15_refusal_294 rfl (by omega) (by omega) (⟨by rw [show rfA s q = 0 by (rw [rfA, if_neg (fun z => z h51), fhF, if_neg (by omega), if_neg (by omega), if_pos (by omega)]; rw [← plZ_plI (s := s) (k := 2) (a := wd q 1) (m := wd q 3) (by omega) (by omega), k286] <;> rfl)], rfl⟩)
                  · have k256 := j_ne_f (a := (q.getD 0 0)) (b := 2) (by omega) (by omega) c256
                    refine e_iconst 260 (v := (nI 1)) dX15_refusal_259 rfl (by decide) ?_
                    refine e_goto 273 dX15_refusal_260 rfl ?_
                    have g9 := sh_1 (q := q) (by omega) h51
                    refine e_aload_n 274 dX15_refusal_273 rfl rfl ?_
                    refine e_iconst 275 (v := (nI 1)) dX15_refusal_274 rfl (by decide) ?_
                    refine u_callS 278 dX15_refusal_275 rfl cs_X15_85 (u_X15_two hR (k := 1) (by omega) (by omega)) rfl rfl (Nat.le_of_ble_eq_true rfl) (by decide) ⟨by omega, by omega⟩ ?_
                    have w275 := wd_lt (k := 1) hq
                    refine e_aload_n 279 dX15_refusal_278 rfl rfl ?_
                    refine e_iconst 280 (v := (nI 3)) dX15_refusal_279 rfl (by decide) ?_
                    refine u_callS 283 dX15_refusal_280 rfl cs_X15_85 (u_X15_two hR (k := 3) (by omega) (by omega)) rfl rfl (Nat.le_of_ble_eq_true rfl) (by decide) ⟨by omega, by omega⟩ ?_
                    have w280 := wd_lt (k := 3) hq
                    refine u_callV 286 dX15_refusal_283 rfl cv_X15_107 v0 (u_X12_has hv he (by decide) (by omega) (by omega)) rfl rfl (Nat.le_of_ble_eq_true rfl) (by decide) ⟨by omega, by omega⟩ ?_
                    refine e_if_eq 293 289 dX15_refusal_286 rfl rfl (fun c286 => ?_) (fun c286 => ?_)
                    · have k286 := jb_eq_t c286
                      refine e_iconst 294 (v := (nI 2)) dX15_refusal_293 rfl (by decide) ?_
                      exact e_iret dX15_refusal_294 rfl (by omega) (by omega) (⟨by rw [show rfA s q = 2 by (rw [rfA, if_neg (fun z => z h51), fhF, if_neg (by omega), if_pos (by omega)]; rw [← plZ_plI (s := s) (k := 1) (a := wd q 1) (m := wd q 3) (by omega) (by omega), k286] <;> rfl)], rfl⟩)
                    · have k286 := jb_eq_f c286
                      refine e_iconst 290 (v := (nI 0)) dX15_refusal_289 rfl (by decide) ?_
                      refine e_goto 294 dX15_refusal_290 rfl ?_
                      exact e_iret dX15_refusal_294 rfl (by omega) (by omega) (⟨by rw [show rfA s q = 0 by (rw [rfA, if_neg (fun z => z h51), fhF, if_neg (by omega), if_pos (by omega)]; rw [← plZ_plI (s := s) (k := 1) (a := wd q 1) (m := wd q 3) (by omega) (by omega), k286] <;> rfl)], rfl⟩)
                · have k247 := j_ne_f (a := (q.getD 0 0)) (b := 1) (by omega) (by omega) c247
                  refine e_iconst 251 (v := (nI 0)) dX15_refusal_250 rfl (by decide) ?_
                  refine e_goto 273 dX15_refusal_251 rfl ?_
                  have g9 := sh_1 (q := q) (by omega) h51
                  refine e_aload_n 274 dX15_refusal_273 rfl rfl ?_
                  refine e_iconst 275 (v := (nI 1)) dX15_refusal_274 rfl (by decide) ?_
                  refine u_callS 278 dX15_refusal_275 rfl cs_X15_85 (u_X15_two hR (k := 1) (by omega) (by omega)) rfl rfl (Nat.le_of_ble_eq_true rfl) (by decide) ⟨by omega, by omega⟩ ?_
                  have w275 := wd_lt (k := 1) hq
                  refine e_aload_n 279 dX15_refusal_278 rfl rfl ?_
                  refine e_iconst 280 (v := (nI 3)) dX15_refusal_279 rfl (by decide) ?_
                  refine u_callS 283 dX15_refusal_280 rfl cs_X15_85 (u_X15_two hR (k := 3) (by omega) (by omega)) rfl rfl (Nat.le_of_ble_eq_true rfl) (by decide) ⟨by omega, by omega⟩ ?_
                  have w280 := wd_lt (k := 3) hq
                  refine u_callV 286 dX15_refusal_283 rfl cv_X15_107 v0 (u_X12_has hv he (by decide) (by omega) (by omega)) rfl rfl (Nat.le_of_ble_eq_true rfl) (by decide) ⟨by omega, by omega⟩ ?_
                  refine e_if_eq 293 289 dX15_refusal_286 rfl rfl (fun c286 => ?_) (fun c286 => ?_)
                  · have k286 := jb_eq_t c286
                    refine e_iconst 294 (v := (nI 2)) dX15_refusal_293 rfl (by decide) ?_
                    exact e_iret dX15_refusal_294 rfl (by omega) (by omega) (⟨by rw [show rfA s q = 2 by (rw [rfA, if_neg (fun z => z h51), fhF, if_pos (by omega)]; rw [← plZ_plI (s := s) (k := 0) (a := wd q 1) (m := wd q 3) (by omega) (by omega), k286] <;> rfl)], rfl⟩)
                  · have k286 := jb_eq_f c286
                    refine e_iconst 290 (v := (nI 0)) dX15_refusal_289 rfl (by decide) ?_
                    refine e_goto 294 dX15_refusal_290 rfl ?_
                    exact e_iret dX15_refusal_294 rfl (by omega) (by omega) (⟨by rw [show rfA s q = 0 by (rw [rfA, if_neg (fun z => z h51), fhF, if_pos (by omega)]; rw [← plZ_plI (s := s) (k := 0) (a := wd q 1) (m := wd q 3) (by omega) (by omega), k286] <;> rfl)], rfl⟩)
              · refine e_tableIn 295 (off := 238) dX15_refusal_57 (by rw [nI_toInt (by omega)]; omega) (by rw [nI_toInt (by omega)]; omega) (by rw [s57]; decide) rfl ?_
                have g9 := sh_5 (q := q) (by omega) h51
                refine e_aload_n 296 dX15_refusal_295 rfl rfl ?_
                refine e_iconst 297 (v := (nI 3)) dX15_refusal_296 rfl (by decide) ?_
                refine u_callS 300 dX15_refusal_297 rfl cs_X15_85 (u_X15_two hR (k := 3) (by omega) (by omega)) rfl rfl (Nat.le_of_ble_eq_true rfl) (by decide) ⟨by omega, by omega⟩ ?_
                have w297 := wd_lt (k := 3) hq
                refine e_if_eq 317 303 dX15_refusal_300 rfl rfl (fun c300 => ?_) (fun c300 => ?_)
                · have k300 := j_eq0_t (a := (wd q 3)) (by omega) c300
                  refine e_aload_n 318 dX15_refusal_317 rfl rfl ?_
                  refine e_iconst 319 (v := (nI 0)) dX15_refusal_318 rfl (by decide) ?_
                  refine e_aload_n 320 dX15_refusal_319 rfl rfl ?_
                  refine e_iconst 321 (v := (nI 1)) dX15_refusal_320 rfl (by decide) ?_
                  refine u_callS 324 dX15_refusal_321 rfl cs_X15_85 (u_X15_two hR (k := 1) (by omega) (by omega)) rfl rfl (Nat.le_of_ble_eq_true rfl) (by decide) ⟨by omega, by omega⟩ ?_
                  have w321 := wd_lt (k := 1) hq
                  refine e_iconst 325 (v := (nI 1)) dX15_refusal_324 rfl (by decide) ?_
                  refine u_callV 328 dX15_refusal_325 rfl cv_X15_107 v0 (u_X12_has hv he (by decide) (by omega) (by omega)) rfl rfl (Nat.le_of_ble_eq_true rfl) (by decide) ⟨by omega, by omega⟩ ?_
                  refine e_if_eq 335 331 dX15_refusal_328 rfl rfl (fun c328 => ?_) (fun c328 => ?_)
                  · have k328 := jb_eq_t c328
                    refine e_iconst 336 (v := (nI 2)) dX15_refusal_335 rfl (by decide) ?_
                    exact e_iret dX15_refusal_336 rfl (by omega) (by omega) (⟨by rw [show rfA s q = 2 by (rw [rfA, if_neg (fun z => z h51), fhF, if_neg (by omega), if_neg (by omega), if_neg (by omega), if_neg (by omega), if_pos (by omega)]; rw [if_neg (by omega), ← plZ_plI (s := s) (k := 0) (a := wd q 1) (m := 1) (by omega) (by omega), k328] <;> rfl)], rfl⟩)
                  · have k328 := jb_eq_f c328
                    refine e_iconst 332 (v := (nI 0)) dX15_refusal_331 rfl (by decide) ?_
                    refine e_goto 336 dX15_refusal_332 rfl ?_
                    exact e_iret dX15_refusal_336 rfl (by omega) (by omega) (⟨by rw [show rfA s q = 0 by (rw [rfA, if_neg (fun z => z h51), fhF, if_neg (by omega), if_neg (by omega), if_neg (by omega), if_neg (by omega), if_pos (by omega)]; rw [if_neg (by omega), ← plZ_plI (s := s) (k := 0) (a := wd q 1) (m := 1) (by omega) (by omega), k328] <;> rfl)], rfl⟩)
                · have k300 := j_eq0_f (a := (wd q 3)) (by omega) c300
                  refine e_aload_n 304 dX15_refusal_303 rfl rfl ?_
                  refine e_iconst 305 (v := (nI 3)) dX15_refusal_304 rfl (by decide) ?_
                  refine u_callS 308 dX15_refusal_305 rfl cs_X15_85 (u_X15_two hR (k := 3) (by omega) (by omega)) rfl rfl (Nat.le_of_ble_eq_true rfl) (by decide) ⟨by omega, by omega⟩ ?_
                  have w305 := wd_lt (k := 3) hq
                  refine e_ldc 310 (v := (nI 65280)) dX15_refusal_308 rfl cn_X15_110 ?_
                  refine e_icmp_eq 317 313 dX15_refusal_310 rfl rfl (fun c310 => ?_) (fun c310 => ?_)
                  · have k310 := j_eq_t (a := (wd q 3)) (b := 65280) (by omega) (by omega) c310
                    refine e_aload_n 318 dX15_refusal_317 rfl rfl ?_
                    refine e_iconst 319 (v := (nI 0)) dX15_refusal_318 rfl (by decide) ?_
                    refine e_aload_n 320 dX15_refusal_319 rfl rfl ?_
                    refine e_iconst 321 (v := (nI 1)) dX15_refusal_320 rfl (by decide) ?_
                    refine u_callS 324 dX15_refusal_321 rfl cs_X15_85 (u_X15_two hR (k := 1) (by omega) (by omega)) rfl rfl (Nat.le_of_ble_eq_true rfl) (by decide) ⟨by omega, by omega⟩ ?_
                    have w321 := wd_lt (k := 1) hq
                    refine e_iconst 325 (v := (nI 1)) dX15_refusal_324 rfl (by decide) ?_
                    refine u_callV 328 dX15_refusal_325 rfl cv_X15_107 v0 (u_X12_has hv he (by decide) (by omega) (by omega)) rfl rfl (Nat.le_of_ble_eq_true rfl) (by decide) ⟨by omega, by omega⟩ ?_
                    refine e_if_eq 335 331 dX15_refusal_328 rfl rfl (fun c328 => ?_) (fun c328 => ?_)
                    · have k328 := jb_eq_t c328
                      refine e_iconst 336 (v := (nI 2)) dX15_refusal_335 rfl (by decide) ?_
                      exact e_iret dX15_refusal_336 rfl (by omega) (by omega) (⟨by rw [show rfA s q = 2 by (rw [rfA, if_neg (fun z => z h51), fhF, if_neg (by omega), if_neg (by omega), if_neg (by omega), if_neg (by omega), if_pos (by omega)]; rw [if_neg (by omega), ← plZ_plI (s := s) (k := 0) (a := wd q 1) (m := 1) (by omega) (by omega), k328] <;> rfl)], rfl⟩)
                    · have k328 := jb_eq_f c328
                      refine e_iconst 332 (v := (nI 0)) dX15_refusal_331 rfl (by decide) ?_
                      refine e_goto 336 dX15_refusal_332 rfl ?_
                      exact e_iret dX15_refusal_336 rfl (by omega) (by omega) (⟨by rw [show rfA s q = 0 by (rw [rfA, if_neg (fun z => z h51), fhF, if_neg (by omega), if_neg (by omega), if_neg (by omega), if_neg (by omega), if_pos (by omega)]; rw [if_neg (by omega), ← plZ_plI (s := s) (k := 0) (a := wd q 1) (m := 1) (by omega) (by omega), k328] <;> rfl)], rfl⟩)
                  · have k310 := j_eq_f (a := (wd q 3)) (b := 65280) (by omega) (by omega) c310
                    refine e_iconst 314 (v := (nI 3)) dX15_refusal_313 rfl (by decide) ?_
                    refine e_goto 336 dX15_refusal_314 rfl ?_
                    exact e_iret dX15_refusal_336 rfl (by omega) (by omega) (⟨by rw [show rfA s q = 3 by (rw [rfA, if_neg (fun z => z h51), fhF, if_neg (by omega), if_neg (by omega), if_neg (by omega), if_neg (by omega), if_pos (by omega)]; exact if_pos ⟨by omega, by omega⟩)], rfl⟩)
              · refine e_tableIn 337 (off := 280) dX15_refusal_57 (by rw [nI_toInt (by omega)]; omega) (by rw [nI_toInt (by omega)]; omega) (by rw [s57]; decide) rfl ?_
                have g9 := sh_5 (q := q) (by omega) h51
                refine e_aload_n 338 dX15_refusal_337 rfl rfl ?_
                refine e_iconst 339 (v := (nI 2)) dX15_refusal_338 rfl (by decide) ?_
                refine e_aload_n 340 dX15_refusal_339 rfl rfl ?_
                refine e_iconst 341 (v := (nI 1)) dX15_refusal_340 rfl (by decide) ?_
                refine u_callS 344 dX15_refusal_341 rfl cs_X15_85 (u_X15_two hR (k := 1) (by omega) (by omega)) rfl rfl (Nat.le_of_ble_eq_true rfl) (by decide) ⟨by omega, by omega⟩ ?_
                have w341 := wd_lt (k := 1) hq
                refine e_iconst 345 (v := (nI 1)) dX15_refusal_344 rfl (by decide) ?_
                refine u_callV 348 dX15_refusal_345 rfl cv_X15_107 v0 (u_X12_has hv he (by decide) (by omega) (by omega)) rfl rfl (Nat.le_of_ble_eq_true rfl) (by decide) ⟨by omega, by omega⟩ ?_
                refine e_if_ne 355 351 dX15_refusal_348 rfl rfl (fun c348 => ?_) (fun c348 => ?_)
                · have k348 := jb_ne_t c348
                  refine e_aload_n 356 dX15_refusal_355 rfl rfl ?_
                  refine e_aload_n 357 dX15_refusal_356 rfl rfl ?_
                  refine e_iconst 358 (v := (nI 1)) dX15_refusal_357 rfl (by decide) ?_
                  refine u_callS 361 dX15_refusal_358 rfl cs_X15_85 (u_X15_two hR (k := 1) (by omega) (by omega)) rfl rfl (Nat.le_of_ble_eq_true rfl) (by decide) ⟨by omega, by omega⟩ ?_
                  have w358 := wd_lt (k := 1) hq
                  refine e_aload_n 362 dX15_refusal_361 rfl rfl ?_
                  refine e_iconst 363 (v := (nI 3)) dX15_refusal_362 rfl (by decide) ?_
                  refine u_callS 366 dX15_refusal_363 rfl cs_X15_85 (u_X15_two hR (k := 3) (by omega) (by omega)) rfl rfl (Nat.le_of_ble_eq_true rfl) (by decide) ⟨by omega, by omega⟩ ?_
                  have w363 := wd_lt (k := 3) hq
                  refine u_callV 369 dX15_refusal_366 rfl cv_X15_111 v0 (u_X12_may hv he h8 (by omega) (by omega)) rfl rfl (Nat.le_of_ble_eq_true rfl) (by decide) ⟨by omega, by omega⟩ ?_
                  refine e_if_eq 376 372 dX15_refusal_369 rfl rfl (fun c369 => ?_) (fun c369 => ?_)
                  · have k369 := jb_eq_t c369
                    refine e_iconst 377 (v := (nI 3)) dX15_refusal_376 rfl (by decide) ?_
                    exact e_iret dX15_refusal_377 rfl (by omega) (by omega) (⟨by rw [show rfA s q = 3 by (rw [rfA, if_neg (fun z => z h51), fhF, if_neg (by omega), if_neg (by omega), if_neg (by omega), if_neg (by omega), if_neg (by omega), if_pos (by omega)]; rw [rgF, ← plZ_plI (s := s) (k := 2) (a := wd q 1) (m := 1) (by omega) (by omega), k348, if_pos rfl, all1 (P := fun i => mbg (dM s) (s.1 8) (wd q 1 + i) (wd q (3 + 2 * i))) k369] <;> rfl)], rfl⟩)
                  · have k369 := jb_eq_f c369
                    refine e_iconst 373 (v := (nI 0)) dX15_refusal_372 rfl (by decide) ?_
                    refine e_goto 377 dX15_refusal_373 rfl ?_
                    exact e_iret dX15_refusal_377 rfl (by omega) (by omega) (⟨by rw [show rfA s q = 0 by (rw [rfA, if_neg (fun z => z h51), fhF, if_neg (by omega), if_neg (by omega), if_neg (by omega), if_neg (by omega), if_neg (by omega), if_pos (by omega)]; rw [rgF, ← plZ_plI (s := s) (k := 2) (a := wd q 1) (m := 1) (by omega) (by omega), k348, if_pos rfl, all1 (P := fun i => mbg (dM s) (s.1 8) (wd q 1 + i) (wd q (3 + 2 * i))) k369] <;> rfl)], rfl⟩)
                · have k348 := jb_ne_f c348
                  refine e_iconst 352 (v := (nI 2)) dX15_refusal_351 rfl (by decide) ?_
                  refine e_goto 377 dX15_refusal_352 rfl ?_
                  exact e_iret dX15_refusal_377 rfl (by omega) (by omega) (⟨by rw [show rfA s q = 2 by (rw [rfA, if_neg (fun z => z h51), fhF, if_neg (by omega), if_neg (by omega), if_neg (by omega), if_neg (by omega), if_neg (by omega), if_pos (by omega)]; rw [rgF, ← plZ_plI (s := s) (k := 2) (a := wd q 1) (m := 1) (by omega) (by omega), k348] <;> rfl)], rfl⟩)
              · refine e_tableIn 627 (off := 570) dX15_refusal_57 (by rw [nI_toInt (by omega)]; omega) (by rw [nI_toInt (by omega)]; omega) (by rcases s57 with s57 | s57 | s57 | s57 | s57 | s57 | s57 | s57 | s57 | s57 | s57 | s57 | s57 | s57 | s57 | s57 | s57 | s57 | s57 | s57 | s57 | s57 | s57 | s57 | s57 | s57 | s57 | s57 | s57 <;> rw [s57] <;> decide) rfl ?_
                refine e_iconst 628 (v := (nI 0)) dX15_refusal_627 rfl (by decide) ?_
                exact e_iret dX15_refusal_628 rfl (by omega) (by omega) (⟨by rw [show rfA s q = 0 by (rw [rfA, if_neg (fun z => z h51), fhF, if_neg (by omega), if_neg (by omega), if_neg (by omega), if_neg (by omega), if_neg (by omega), if_neg (by omega), if_neg (by omega), if_neg (by omega), if_neg (by omega), if_neg (by omega), if_neg (by omega), if_neg (by omega), if_neg (by omega)])], rfl⟩)
              · refine e_tableIn 378 (off := 321) dX15_refusal_57 (by rw [nI_toInt (by omega)]; omega) (by rw [nI_toInt (by omega)]; omega) (by rw [s57]; decide) rfl ?_
                have g9 := sh_15 (q := q) (by omega) h51
                refine e_aload_n 379 dX15_refusal_378 rfl rfl ?_
                refine e_iconst 380 (v := (nI 0)) dX15_refusal_379 rfl (by decide) ?_
                refine e_aload_n 381 dX15_refusal_380 rfl rfl ?_
                refine e_iconst 382 (v := (nI 1)) dX15_refusal_381 rfl (by decide) ?_
                refine u_callS 385 dX15_refusal_382 rfl cs_X15_85 (u_X15_two hR (k := 1) (by omega) (by omega)) rfl rfl (Nat.le_of_ble_eq_true rfl) (by decide) ⟨by omega, by omega⟩ ?_
                have w382 := wd_lt (k := 1) hq
                refine e_aload_n 386 dX15_refusal_385 rfl rfl ?_
                refine e_iconst 387 (v := (nI 3)) dX15_refusal_386 rfl (by decide) ?_
                refine u_callS 390 dX15_refusal_387 rfl cs_X15_85 (u_X15_two hR (k := 3) (by omega) (by omega)) rfl rfl (Nat.le_of_ble_eq_true rfl) (by decide) ⟨by omega, by omega⟩ ?_
                have w387 := wd_lt (k := 3) hq
                refine u_callV 393 dX15_refusal_390 rfl cv_X15_107 v0 (u_X12_has hv he (by decide) (by omega) (by omega)) rfl rfl (Nat.le_of_ble_eq_true rfl) (by decide) ⟨by omega, by omega⟩ ?_
                refine e_if_eq 400 396 dX15_refusal_393 rfl rfl (fun c393 => ?_) (fun c393 => ?_)
                · have k393 := jb_eq_t c393
                  refine e_iconst 401 (v := (nI 2)) dX15_refusal_400 rfl (by decide) ?_
                  exact e_iret dX15_refusal_401 rfl (by omega) (by omega) (⟨by rw [show rfA s q = 2 by (rw [rfA, if_neg (fun z => z h51), fhF, if_pos (by omega)]; rw [← plZ_plI (s := s) (k := 0) (a := wd q 1) (m := wd q 3) (by omega) (by omega), k393] <;> rfl)], rfl⟩)
                · have k393 := jb_eq_f c393
                  refine e_iconst 397 (v := (nI 0)) dX15_refusal_396 rfl (by decide) ?_
                  refine e_goto 401 dX15_refusal_397 rfl ?_
                  exact e_iret dX15_refusal_401 rfl (by omega) (by omega) (⟨by rw [show rfA s q = 0 by (rw [rfA, if_neg (fun z => z h51), fhF, if_pos (by omega)]; rw [← plZ_plI (s := s) (k := 0) (a := wd q 1) (m := wd q 3) (by omega) (by omega), k393] <;> rfl)], rfl⟩)
              · refine e_tableIn 402 (off := 345) dX15_refusal_57 (by rw [nI_toInt (by omega)]; omega) (by rw [nI_toInt (by omega)]; omega) (by rw [s57]; decide) rfl ?_
                have g9 := sh_16 (q := q) (by omega) h51
                refine e_aload_n 403 dX15_refusal_402 rfl rfl ?_
                refine e_iconst 404 (v := (nI 2)) dX15_refusal_403 rfl (by decide) ?_
                refine e_aload_n 405 dX15_refusal_404 rfl rfl ?_
                refine e_iconst 406 (v := (nI 1)) dX15_refusal_405 rfl (by decide) ?_
                refine u_callS 409 dX15_refusal_406 rfl cs_X15_85 (u_X15_two hR (k := 1) (by omega) (by omega)) rfl rfl (Nat.le_of_ble_eq_true rfl) (by decide) ⟨by omega, by omega⟩ ?_
                have w406 := wd_lt (k := 1) hq
                refine e_aload_n 410 dX15_refusal_409 rfl rfl ?_
                refine e_iconst 411 (v := (nI 3)) dX15_refusal_410 rfl (by decide) ?_
                refine u_callS 414 dX15_refusal_411 rfl cs_X15_85 (u_X15_two hR (k := 3) (by omega) (by omega)) rfl rfl (Nat.le_of_ble_eq_true rfl) (by decide) ⟨by omega, by omega⟩ ?_
                have w411 := wd_lt (k := 3) hq
                refine u_callV 417 dX15_refusal_414 rfl cv_X15_107 v0 (u_X12_has hv he (by decide) (by omega) (by omega)) rfl rfl (Nat.le_of_ble_eq_true rfl) (by decide) ⟨by omega, by omega⟩ ?_
                refine e_if_ne 424 420 dX15_refusal_417 rfl rfl (fun c417 => ?_) (fun c417 => ?_)
                · have k417 := jb_ne_t c417
                  refine e_aload_n 425 dX15_refusal_424 rfl rfl ?_
                  refine e_aload_n 426 dX15_refusal_425 rfl rfl ?_
                  refine e_aload_n 427 dX15_refusal_426 rfl rfl ?_
                  refine e_iconst 428 (v := (nI 1)) dX15_refusal_427 rfl (by decide) ?_
                  refine u_callS 431 dX15_refusal_428 rfl cs_X15_85 (u_X15_two hR (k := 1) (by omega) (by omega)) rfl rfl (Nat.le_of_ble_eq_true rfl) (by decide) ⟨by omega, by omega⟩ ?_
                  have w428 := wd_lt (k := 1) hq
                  refine e_aload_n 432 dX15_refusal_431 rfl rfl ?_
                  refine e_iconst 433 (v := (nI 3)) dX15_refusal_432 rfl (by decide) ?_
                  refine u_callS 436 dX15_refusal_433 rfl cs_X15_85 (u_X15_two hR (k := 3) (by omega) (by omega)) rfl rfl (Nat.le_of_ble_eq_true rfl) (by decide) ⟨by omega, by omega⟩ ?_
                  have w433 := wd_lt (k := 3) hq
                  refine e_bipush 438 (v := (nI 6)) dX15_refusal_436 rfl (by decide) ?_
                  refine u_callS 441 dX15_refusal_438 rfl cs_X15_115 (u_X15_mays hv he hok hR hqn hq h1 hl9 (by omega) (by omega) (by omega)) rfl rfl (Nat.le_of_ble_eq_true rfl) (by decide) ⟨by omega, by omega⟩ ?_
                  refine e_if_eq 448 444 dX15_refusal_441 rfl rfl (fun c441 => ?_) (fun c441 => ?_)
                  · have k441 := jb_eq_t c441
                    refine e_iconst 449 (v := (nI 3)) dX15_refusal_448 rfl (by decide) ?_
                    exact e_iret dX15_refusal_449 rfl (by omega) (by omega) (⟨by rw [show rfA s q = 3 by (rw [rfA, if_neg (fun z => z h51), fhF, if_neg (by omega), if_neg (by omega), if_neg (by omega), if_neg (by omega), if_neg (by omega), if_neg (by omega), if_neg (by omega), if_pos (by omega)]; rw [rgF, ← plZ_plI (s := s) (k := 2) (a := wd q 1) (m := wd q 3) (by omega) (by omega), k417, if_pos rfl, k441] <;> rfl)], rfl⟩)
                  · have k441 := jb_eq_f c441
                    refine e_iconst 445 (v := (nI 0)) dX15_refusal_444 rfl (by decide) ?_
                    refine e_goto 449 dX15_refusal_445 rfl ?_
                    exact e_iret dX15_refusal_449 rfl (by omega) (by omega) (⟨by rw [show rfA s q = 0 by (rw [rfA, if_neg (fun z => z h51), fhF, if_neg (by omega), if_neg (by omega), if_neg (by omega), if_neg (by omega), if_neg (by omega), if_neg (by omega), if_neg (by omega), if_pos (by omega)]; rw [rgF, ← plZ_plI (s := s) (k := 2) (a := wd q 1) (m := wd q 3) (by omega) (by omega), k417, if_pos rfl, k441] <;> rfl)], rfl⟩)
                · have k417 := jb_ne_f c417
                  refine e_iconst 421 (v := (nI 2)) dX15_refusal_420 rfl (by decide) ?_
                  refine e_goto 449 dX15_refusal_421 rfl ?_
                  exact e_iret dX15_refusal_449 rfl (by omega) (by omega) (⟨by rw [show rfA s q = 2 by (rw [rfA, if_neg (fun z => z h51), fhF, if_neg (by omega), if_neg (by omega), if_neg (by omega), if_neg (by omega), if_neg (by omega), if_neg (by omega), if_neg (by omega), if_pos (by omega)]; rw [rgF, ← plZ_plI (s := s) (k := 2) (a := wd q 1) (m := wd q 3) (by omega) (by omega), k417] <;> rfl)], rfl⟩)
              · refine e_tableIn 450 (off := 393) dX15_refusal_57 (by rw [nI_toInt (by omega)]; omega) (by rw [nI_toInt (by omega)]; omega) (by rcases s57 with s57 | s57 <;> rw [s57] <;> decide) rfl ?_
                refine e_aload_n 451 dX15_refusal_450 rfl rfl ?_
                refine e_aload_n 452 dX15_refusal_451 rfl rfl ?_
                refine e_iload_n 453 dX15_refusal_452 rfl rfl ?_
                refine u_callS 456 dX15_refusal_453 rfl cs_X15_119 (u_X15_parts hv he hok hR hqn hq h1 hl9 (vb := (if q.getD 0 0 = 21 then 2 else 0)) ⟨fun z => if_pos z, fun z => if_neg z⟩ (sh_p (by omega) h51)) rfl rfl (Nat.le_of_ble_eq_true rfl) (by decide) ⟨by omega, by omega⟩ ?_
                exact e_iret dX15_refusal_456 rfl (by omega) (by omega) (⟨by rw [show rfA s q = (ffF (dS s 0) q (if q.getD 0 0 = 21 then 2 else 0) 36 2) by rw [rfA, if_neg (fun z => z h51), fhF, if_neg (by omega), if_neg (by omega), if_neg (by omega), if_neg (by omega), if_neg (by omega), if_neg (by omega), if_neg (by omega), if_neg (by omega), if_pos (by omega)]], rfl⟩)
              · refine e_tableIn 457 (off := 400) dX15_refusal_57 (by rw [nI_toInt (by omega)]; omega) (by rw [nI_toInt (by omega)]; omega) (by rw [s57]; decide) rfl ?_
                have g9 := sh_22 (q := q) (by omega) h51
                refine e_aload_n 458 dX15_refusal_457 rfl rfl ?_
                refine e_iconst 459 (v := (nI 2)) dX15_refusal_458 rfl (by decide) ?_
                refine e_aload_n 460 dX15_refusal_459 rfl rfl ?_
                refine e_iconst 461 (v := (nI 1)) dX15_refusal_460 rfl (by decide) ?_
                refine u_callS 464 dX15_refusal_461 rfl cs_X15_85 (u_X15_two hR (k := 1) (by omega) (by omega)) rfl rfl (Nat.le_of_ble_eq_true rfl) (by decide) ⟨by omega, by omega⟩ ?_
                have w461 := wd_lt (k := 1) hq
                refine e_iconst 465 (v := (nI 1)) dX15_refusal_464 rfl (by decide) ?_
                refine u_callV 468 dX15_refusal_465 rfl cv_X15_107 v0 (u_X12_has hv he (by decide) (by omega) (by omega)) rfl rfl (Nat.le_of_ble_eq_true rfl) (by decide) ⟨by omega, by omega⟩ ?_
                refine e_if_ne 475 471 dX15_refusal_468 rfl rfl (fun c468 => ?_) (fun c468 => ?_)
                · have k468 := jb_ne_t c468
                  refine e_aload_n 476 dX15_refusal_475 rfl rfl ?_
                  refine e_aload_n 477 dX15_refusal_476 rfl rfl ?_
                  refine e_iconst 478 (v := (nI 1)) dX15_refusal_477 rfl (by decide) ?_
                  refine u_callS 481 dX15_refusal_478 rfl cs_X15_85 (u_X15_two hR (k := 1) (by omega) (by omega)) rfl rfl (Nat.le_of_ble_eq_true rfl) (by decide) ⟨by omega, by omega⟩ ?_
                  have w478 := wd_lt (k := 1) hq
                  refine e_aload_n 482 dX15_refusal_481 rfl rfl ?_
                  refine e_aload_n 483 dX15_refusal_482 rfl rfl ?_
                  refine u_callS 486 dX15_refusal_483 rfl cs_X15_123 (u_X15_masked hv he hok hR hqn hq h1 hl9 (by omega) (plZ_1 k468)) rfl rfl (Nat.le_of_ble_eq_true rfl) (by decide) ⟨by omega, by omega⟩ ?_
                  have hm9 := mkN_lt (v := (dL s 2).getD (wd q 1 - dF s 2) 0) (a := wd q 3) (o := wd q 5) (gd_lt (okD_L hok 2) (by decide)) (wd_lt hq)
                  refine u_callV 489 dX15_refusal_486 rfl cv_X15_111 v0 (u_X12_may hv he h8 (by omega) (by omega)) rfl rfl (Nat.le_of_ble_eq_true rfl) (by decide) ⟨by omega, by omega⟩ ?_
                  refine e_if_eq 496 492 dX15_refusal_489 rfl rfl (fun c489 => ?_) (fun c489 => ?_)
                  · have k489 := jb_eq_t c489
                    refine e_iconst 497 (v := (nI 3)) dX15_refusal_496 rfl (by decide) ?_
                    exact e_iret dX15_refusal_497 rfl (by omega) (by omega) (⟨by rw [show rfA s q = 3 by (rw [rfA, if_neg (fun z => z h51), fhF, if_neg (by omega), if_neg (by omega), if_neg (by omega), if_neg (by omega), if_neg (by omega), if_neg (by omega), if_neg (by omega), if_neg (by omega), if_neg (by omega), if_pos (by omega)]; rw [mfF, ← plZ_plI (s := s) (k := 2) (a := wd q 1) (m := 1) (by omega) (by omega), k468, if_pos rfl, k489] <;> rfl)], rfl⟩)
                  · have k489 := jb_eq_f c489
                    refine e_iconst 493 (v := (nI 0)) dX15_refusal_492 rfl (by decide) ?_
                    refine e_goto 497 dX15_refusal_493 rfl ?_
                    exact e_iret dX15_refusal_497 rfl (by omega) (by omega) (⟨by rw [show rfA s q = 0 by (rw [rfA, if_neg (fun z => z h51), fhF, if_neg (by omega), if_neg (by omega), if_neg (by omega), if_neg (by omega), if_neg (by omega), if_neg (by omega), if_neg (by omega), if_neg (by omega), if_neg (by omega), if_pos (by omega)]; rw [mfF, ← plZ_plI (s := s) (k := 2) (a := wd q 1) (m := 1) (by omega) (by omega), k468, if_pos rfl, k489] <;> rfl)], rfl⟩)
                · have k468 := jb_ne_f c468
                  refine e_iconst 472 (v := (nI 2)) dX15_refusal_471 rfl (by decide) ?_
                  refine e_goto 497 dX15_refusal_472 rfl ?_
                  exact e_iret dX15_refusal_497 rfl (by omega) (by omega) (⟨by rw [show rfA s q = 2 by (rw [rfA, if_neg (fun z => z h51), fhF, if_neg (by omega), if_neg (by omega), if_neg (by omega), if_neg (by omega), if_neg (by omega), if_neg (by omega), if_neg (by omega), if_neg (by omega), if_neg (by omega), if_pos (by omega)]; rw [mfF, ← plZ_plI (s := s) (k := 2) (a := wd q 1) (m := 1) (by omega) (by omega), k468] <;> rfl)], rfl⟩)
              · refine e_tableIn 498 (off := 441) dX15_refusal_57 (by rw [nI_toInt (by omega)]; omega) (by rw [nI_toInt (by omega)]; omega) (by rw [s57]; decide) rfl ?_
                have g9 := sh_23 (q := q) (by omega) h51
                refine e_aload_n 499 dX15_refusal_498 rfl rfl ?_
                refine e_iconst 500 (v := (nI 2)) dX15_refusal_499 rfl (by decide) ?_
                refine e_aload_n 501 dX15_refusal_500 rfl rfl ?_
                refine e_iconst 502 (v := (nI 1)) dX15_refusal_501 rfl (by decide) ?_
                refine u_callS 505 dX15_refusal_502 rfl cs_X15_85 (u_X15_two hR (k := 1) (by omega) (by omega)) rfl rfl (Nat.le_of_ble_eq_true rfl) (by decide) ⟨by omega, by omega⟩ ?_
                have w502 := wd_lt (k := 1) hq
                refine e_aload_n 506 dX15_refusal_505 rfl rfl ?_
                refine e_iconst 507 (v := (nI 3)) dX15_refusal_506 rfl (by decide) ?_
                refine u_callS 510 dX15_refusal_507 rfl cs_X15_85 (u_X15_two hR (k := 3) (by omega) (by omega)) rfl rfl (Nat.le_of_ble_eq_true rfl) (by decide) ⟨by omega, by omega⟩ ?_
                have w507 := wd_lt (k := 3) hq
                refine u_callV 513 dX15_refusal_510 rfl cv_X15_107 v0 (u_X12_has hv he (by decide) (by omega) (by omega)) rfl rfl (Nat.le_of_ble_eq_true rfl) (by decide) ⟨by omega, by omega⟩ ?_
                refine e_if_eq 535 516 dX15_refusal_513 rfl rfl (fun c513 => ?_) (fun c513 => ?_)
                · have k513 := jb_eq_t c513
                  refine e_iconst 536 (v := (nI 2)) dX15_refusal_535 rfl (by decide) ?_
                  exact e_iret dX15_refusal_536 rfl (by omega) (by omega) (⟨by rw [show rfA s q = 2 by (rw [rfA, if_neg (fun z => z h51), fhF, if_neg (by omega), if_neg (by omega), if_neg (by omega), if_neg (by omega), if_neg (by omega), if_neg (by omega), if_neg (by omega), if_neg (by omega), if_neg (by omega), if_neg (by omega), if_pos (by omega)]; rw [← plZ_plI (s := s) (k := 2) (a := wd q 1) (m := wd q 3) (by omega) (by omega), k513] <;> rfl)], rfl⟩)
                · have k513 := jb_eq_f c513
                  refine e_aload_n 517 dX15_refusal_516 rfl rfl ?_
                  refine e_iconst 518 (v := (nI 2)) dX15_refusal_517 rfl (by decide) ?_
                  refine e_aload_n 519 dX15_refusal_518 rfl rfl ?_
                  refine e_iconst 520 (v := (nI 5)) dX15_refusal_519 rfl (by decide) ?_
                  refine u_callS 523 dX15_refusal_520 rfl cs_X15_85 (u_X15_two hR (k := 5) (by omega) (by omega)) rfl rfl (Nat.le_of_ble_eq_true rfl) (by decide) ⟨by omega, by omega⟩ ?_
                  have w520 := wd_lt (k := 5) hq
                  refine e_aload_n 524 dX15_refusal_523 rfl rfl ?_
                  refine e_bipush 526 (v := (nI 7)) dX15_refusal_524 rfl (by decide) ?_
                  refine u_callS 529 dX15_refusal_526 rfl cs_X15_85 (u_X15_two hR (k := 7) (by omega) (by omega)) rfl rfl (Nat.le_of_ble_eq_true rfl) (by decide) ⟨by omega, by omega⟩ ?_
                  have w526 := wd_lt (k := 7) hq
                  refine u_callV 532 dX15_refusal_529 rfl cv_X15_107 v0 (u_X12_has hv he (by decide) (by omega) (by omega)) rfl rfl (Nat.le_of_ble_eq_true rfl) (by decide) ⟨by omega, by omega⟩ ?_
                  refine e_if_ne 537 535 dX15_refusal_532 rfl rfl (fun c532 => ?_) (fun c532 => ?_)
                  · have k532 := jb_ne_t c532
                    refine e_aload_n 538 dX15_refusal_537 rfl rfl ?_
                    refine e_aload_n 539 dX15_refusal_538 rfl rfl ?_
                    refine e_aload_n 540 dX15_refusal_539 rfl rfl ?_
                    refine e_iconst 541 (v := (nI 5)) dX15_refusal_540 rfl (by decide) ?_
                    refine u_callS 544 dX15_refusal_541 rfl cs_X15_85 (u_X15_two hR (k := 5) (by omega) (by omega)) rfl rfl (Nat.le_of_ble_eq_true rfl) (by decide) ⟨by omega, by omega⟩ ?_
                    have w541 := wd_lt (k := 5) hq
                    refine e_aload_n 545 dX15_refusal_544 rfl rfl ?_
                    refine e_bipush 547 (v := (nI 7)) dX15_refusal_545 rfl (by decide) ?_
                    refine u_callS 550 dX15_refusal_547 rfl cs_X15_85 (u_X15_two hR (k := 7) (by omega) (by omega)) rfl rfl (Nat.le_of_ble_eq_true rfl) (by decide) ⟨by omega, by omega⟩ ?_
                    have w547 := wd_lt (k := 7) hq
                    refine e_bipush 552 (v := (nI 10)) dX15_refusal_550 rfl (by decide) ?_
                    refine u_callS 555 dX15_refusal_552 rfl cs_X15_115 (u_X15_mays hv he hok hR hqn hq h1 hl9 (by omega) (by omega) (by omega)) rfl rfl (Nat.le_of_ble_eq_true rfl) (by decide) ⟨by omega, by omega⟩ ?_
                    refine e_if_eq 562 558 dX15_refusal_555 rfl rfl (fun c555 => ?_) (fun c555 => ?_)
                    · have k555 := jb_eq_t c555
                      refine e_iconst 563 (v := (nI 3)) dX15_refusal_562 rfl (by decide) ?_
                      exact e_iret dX15_refusal_563 rfl (by omega) (by omega) (⟨by rw [show rfA s q = 3 by (rw [rfA, if_neg (fun z => z h51), fhF, if_neg (by omega), if_neg (by omega), if_neg (by omega), if_neg (by omega), if_neg (by omega), if_neg (by omega), if_neg (by omega), if_neg (by omega), if_neg (by omega), if_neg (by omega), if_pos (by omega)]; rw [← plZ_plI (s := s) (k := 2) (a := wd q 1) (m := wd q 3) (by omega) (by omega), k513, if_pos rfl, rgF, ← plZ_plI (s := s) (k := 2) (a := wd q 5) (m := wd q 7) (by omega) (by omega), k532, if_pos rfl, k555] <;> rfl)], rfl⟩)
                    · have k555 := jb_eq_f c555
                      refine e_iconst 559 (v := (nI 0)) dX15_refusal_558 rfl (by decide) ?_
                      refine e_goto 563 dX15_refusal_559 rfl ?_
                      exact e_iret dX15_refusal_563 rfl (by omega) (by omega) (⟨by rw [show rfA s q = 0 by (rw [rfA, if_neg (fun z => z h51), fhF, if_neg (by omega), if_neg (by omega), if_neg (by omega), if_neg (by omega), if_neg (by omega), if_neg (by omega), if_neg (by omega), if_neg (by omega), if_neg (by omega), if_neg (by omega), if_pos (by omega)]; rw [← plZ_plI (s := s) (k := 2) (a := wd q 1) (m := wd q 3) (by omega) (by omega), k513, if_pos rfl, rgF, ← plZ_plI (s := s) (k := 2) (a := wd q 5) (m := wd q 7) (by omega) (by omega), k532, if_pos rfl, k555] <;> rfl)], rfl⟩)
                  · have k532 := jb_ne_f c532
                    refine e_iconst 536 (v := (nI 2)) dX15_refusal_535 rfl (by decide) ?_
                    exact e_iret dX15_refusal_536 rfl (by omega) (by omega) (⟨by rw [show rfA s q = 2 by (rw [rfA, if_neg (fun z => z h51), fhF, if_neg (by omega), if_neg (by omega), if_neg (by omega), if_neg (by omega), if_neg (by omega), if_neg (by omega), if_neg (by omega), if_neg (by omega), if_neg (by omega), if_neg (by omega), if_pos (by omega)]; rw [← plZ_plI (s := s) (k := 2) (a := wd q 1) (m := wd q 3) (by omega) (by omega), k513, if_pos rfl, rgF, ← plZ_plI (s := s) (k := 2) (a := wd q 5) (m := wd q 7) (by omega) (by omega), k532] <;> rfl)], rfl⟩)
              · refine e_tableIn 564 (off := 507) dX15_refusal_57 (by rw [nI_toInt (by omega)]; omega) (by rw [nI_toInt (by omega)]; omega) (by rw [s57]; decide) rfl ?_
                have g9 := sh_24 (q := q) (by omega) h51
                refine e_aload_n 565 dX15_refusal_564 rfl rfl ?_
                refine e_aload_n 566 dX15_refusal_565 rfl rfl ?_
                refine e_iconst 567 (v := (nI 1)) dX15_refusal_566 rfl (by decide) ?_
                refine u_callS 570 dX15_refusal_567 rfl cs_X15_85 (u_X15_two hR (k := 1) (by omega) (by omega)) rfl rfl (Nat.le_of_ble_eq_true rfl) (by decide) ⟨by omega, by omega⟩ ?_
                have w567 := wd_lt (k := 1) hq
                refine u_callV 573 dX15_refusal_570 rfl cv_X15_127 v0 (u_X12_queueOf hv he) rfl rfl (Nat.le_of_ble_eq_true rfl) (by decide) ⟨by omega, by omega⟩ ?_
                rcases hx570 : ixM (dS s 1) (nI (wd q 1)) with _ | i570
                · have n570 := hx570
                  refine e_istore 575 (ls' := [some (.ref d), some (.ref a), some (.int (nI q.length)), some (.int (nI (q.getD 0 0))), some (.int (-1))]) dX15_refusal_573 rfl (by decide) rfl ?_
                  refine e_iload 577 dX15_refusal_575 rfl rfl ?_
                  refine e_iconst 578 (v := (-1)) dX15_refusal_577 rfl (by decide) ?_
                  refine e_icmp_ne 585 581 dX15_refusal_578 rfl rfl (fun c578 => absurd c578 (fun z => z rfl)) (fun c578 => ?_)
                  refine e_iconst 582 (v := (nI 2)) dX15_refusal_581 rfl (by decide) ?_
                  refine e_goto 602 dX15_refusal_582 rfl ?_
                  exact e_iret dX15_refusal_602 rfl (by omega) (by omega) (⟨by rw [show rfA s q = 2 by (rw [rfA, if_neg (fun z => z h51), fhF, if_neg (by omega), if_neg (by omega), if_neg (by omega), if_neg (by omega), if_neg (by omega), if_neg (by omega), if_neg (by omega), if_neg (by omega), if_neg (by omega), if_neg (by omega), if_neg (by omega), if_pos (by omega)]; rw [qfF, n570])], rfl⟩)
                · have l570 := ixM_lt hx570
                  have hrl := shO_at hsh.2.1 (by decide) i570
                  refine e_istore 575 (ls' := [some (.ref d), some (.ref a), some (.int (nI q.length)), some (.int (nI (q.getD 0 0))), some (.int (nI i570))]) dX15_refusal_573 rfl (by decide) rfl ?_
                  refine e_iload 577 dX15_refusal_575 rfl rfl ?_
                  refine e_iconst 578 (v := (-1)) dX15_refusal_577 rfl (by decide) ?_
                  refine e_icmp_ne 585 581 dX15_refusal_578 rfl rfl (fun c578 => ?_) (fun c578 => absurd c578 (nI_ne_m1 (by omega)))
                  refine e_aload_n 586 dX15_refusal_585 rfl rfl ?_
                  refine e_get 589 dX15_refusal_586 rfl fl_X15_131_10 v0 rfl ?_
                  refine e_iload 591 dX15_refusal_589 rfl rfl ?_
                  refine v_iald 592 v13 (k := i570) (x := (rwM (dS s 1) i570).length) dX15_refusal_591 rfl (by simp only [szs_len] <;> omega) (by omega) szs_at ?_
                  refine e_bipush 594 (v := (nI 31)) dX15_refusal_592 rfl (by decide) ?_
                  refine e_icmp_le 601 597 dX15_refusal_594 rfl rfl (fun c594 => ?_) (fun c594 => ?_)
                  · have k594 := j_le_t (a := ((rwM (dS s 1) i570).length)) (b := 31) (by omega) (by omega) c594
                    refine e_iconst 602 (v := (nI 0)) dX15_refusal_601 rfl (by decide) ?_
                    exact e_iret dX15_refusal_602 rfl (by omega) (by omega) (⟨by rw [show rfA s q = 0 by (rw [rfA, if_neg (fun z => z h51), fhF, if_neg (by omega), if_neg (by omega), if_neg (by omega), if_neg (by omega), if_neg (by omega), if_neg (by omega), if_neg (by omega), if_neg (by omega), if_neg (by omega), if_neg (by omega), if_neg (by omega), if_pos (by omega)]; rw [qfF, hx570]; exact if_neg (by omega))], rfl⟩)
                  · have k594 := j_le_f (a := ((rwM (dS s 1) i570).length)) (b := 31) (by omega) (by omega) c594
                    refine e_iconst 598 (v := (nI 3)) dX15_refusal_597 rfl (by decide) ?_
                    refine e_goto 602 dX15_refusal_598 rfl ?_
                    exact e_iret dX15_refusal_602 rfl (by omega) (by omega) (⟨by rw [show rfA s q = 3 by (rw [rfA, if_neg (fun z => z h51), fhF, if_neg (by omega), if_neg (by omega), if_neg (by omega), if_neg (by omega), if_neg (by omega), if_neg (by omega), if_neg (by omega), if_neg (by omega), if_neg (by omega), if_neg (by omega), if_neg (by omega), if_pos (by omega)]; rw [qfF, hx570]; exact if_pos (by omega))], rfl⟩)
              · refine e_tableIn 603 (off := 546) dX15_refusal_57 (by rw [nI_toInt (by omega)]; omega) (by rw [nI_toInt (by omega)]; omega) (by rw [s57]; decide) rfl ?_
                have g9 := sh_43 (q := q) (by omega) h51
                refine e_aload_n 604 dX15_refusal_603 rfl rfl ?_
                refine e_iconst 605 (v := (nI 2)) dX15_refusal_604 rfl (by decide) ?_
                have b605 := gd_lt (i := 2) hq (by decide)
                refine v_iald 606 hR (k := 2) (x := (q.getD 2 0)) dX15_refusal_605 rfl (by omega) (by omega) rfl ?_
                refine e_iconst 607 (v := (nI 4)) dX15_refusal_606 rfl (by decide) ?_
                refine e_icmp_ne 625 610 dX15_refusal_607 rfl rfl (fun c607 => ?_) (fun c607 => ?_)
                · have k607 := j_ne_t (a := (q.getD 2 0)) (b := 4) (by omega) (by omega) c607
                  refine e_iconst 626 (v := (nI 0)) dX15_refusal_625 rfl (by decide) ?_
                  exact e_iret dX15_refusal_626 rfl (by omega) (by omega) (⟨by rw [show rfA s q = 0 by (rw [rfA, if_neg (fun z => z h51), fhF, if_neg (by omega), if_neg (by omega), if_neg (by omega), if_neg (by omega), if_neg (by omega), if_neg (by omega), if_neg (by omega), if_neg (by omega), if_neg (by omega), if_neg (by omega), if_neg (by omega), if_neg (by omega), if_pos (by omega)]; exact if_neg (fun z => k607 z.1))], rfl⟩)
                · have k607 := j_ne_f (a := (q.getD 2 0)) (b := 4) (by omega) (by omega) c607
                  refine e_aload_n 611 dX15_refusal_610 rfl rfl ?_
                  refine e_aload_n 612 dX15_refusal_611 rfl rfl ?_
                  refine e_iconst 613 (v := (nI 3)) dX15_refusal_612 rfl (by decide) ?_
                  have b613 := gd_lt (i := 3) hq (by decide)
                  refine v_iald 614 hR (k := 3) (x := (q.getD 3 0)) dX15_refusal_613 rfl (by omega) (by omega) rfl ?_
                  refine u_callV 617 dX15_refusal_614 rfl cv_X15_134 v0 (u_X12_textOf hv he) rfl rfl (Nat.le_of_ble_eq_true rfl) (by decide) ⟨by omega, by omega⟩ ?_
                  rcases hx614 : ixM (sortT (dS s 2)) (nI (q.getD 3 0)) with _ | i614
                  · have n614 := hx614
                    refine e_iconst 618 (v := (-1)) dX15_refusal_617 rfl (by decide) ?_
                    refine e_icmp_ne 625 621 dX15_refusal_618 rfl rfl (fun c618 => absurd c618 (fun z => z rfl)) (fun c618 => ?_)
                    refine e_iconst 622 (v := (nI 2)) dX15_refusal_621 rfl (by decide) ?_
                    refine e_goto 626 dX15_refusal_622 rfl ?_
                    exact e_iret dX15_refusal_626 rfl (by omega) (by omega) (⟨by rw [show rfA s q = 2 by (rw [rfA, if_neg (fun z => z h51), fhF, if_neg (by omega), if_neg (by omega), if_neg (by omega), if_neg (by omega), if_neg (by omega), if_neg (by omega), if_neg (by omega), if_neg (by omega), if_neg (by omega), if_neg (by omega), if_neg (by omega), if_neg (by omega), if_pos (by omega)]; exact if_pos ⟨by omega, ixM_sort.mp n614⟩)], rfl⟩)
                  · have l614 := ixM_lt hx614
                    rw [sortT_len] at l614
                    refine e_iconst 618 (v := (-1)) dX15_refusal_617 rfl (by decide) ?_
                    refine e_icmp_ne 625 621 dX15_refusal_618 rfl rfl (fun c618 => ?_) (fun c618 => absurd c618 (nI_ne_m1 (by omega)))
                    refine e_iconst 626 (v := (nI 0)) dX15_refusal_625 rfl (by decide) ?_
                    exact e_iret dX15_refusal_626 rfl (by omega) (by omega) (⟨by rw [show rfA s q = 0 by (rw [rfA, if_neg (fun z => z h51), fhF, if_neg (by omega), if_neg (by omega), if_neg (by omega), if_neg (by omega), if_neg (by omega), if_neg (by omega), if_neg (by omega), if_neg (by omega), if_neg (by omega), if_neg (by omega), if_neg (by omega), if_neg (by omega), if_pos (by omega)]; exact if_neg (fun z => by rw [ixM_sort.mpr z.2] at hx614; cases hx614))], rfl⟩)
            · have k51 := jb_ne_f c51
              have h51 : shF q ≠ 0 := of_decide_eq_false k51
              refine e_iconst 55 (v := (nI 3)) dX15_refusal_54 rfl (by decide) ?_
              exact e_iret dX15_refusal_55 rfl (by omega) (by omega) (⟨by rw [show rfA s q = 3 by (rw [rfA, if_pos h51]; exact (sh_03 t8 (by omega) (by omega)).resolve_left h51)], rfl⟩)
          · have k41 := j_eq_f (a := (q.getD 1 0)) (b := 14) (by omega) (by omega) c41
            refine e_iconst 45 (v := (nI 1)) dX15_refusal_44 rfl (by decide) ?_
            exact e_iret dX15_refusal_45 rfl (by omega) (by omega) (⟨by rw [show rfA s q = 1 by (rw [rfA, show shF q = 1 by (rw [shF, if_neg (by omega), if_neg (by omega), if_neg (by omega), if_neg (by omega), if_neg (by omega), if_neg (by omega), if_neg (by omega), if_neg (by omega), if_neg (by omega), if_neg (by omega), if_neg (by omega), if_neg (by omega), if_pos (by omega), txF, if_neg (by omega), if_pos (by omega)])] <;> rfl)], rfl⟩)
    · have k16 := j_ne_f (a := (q.getD 0 0)) (b := 8) (by omega) (by omega) c16
      refine e_aload_n 20 dX15_refusal_19 rfl rfl ?_
      refine e_iload_n 21 dX15_refusal_20 rfl rfl ?_
      refine u_callS 24 dX15_refusal_21 rfl cs_X15_100 (u_X15_refusal8 hR hqn hq h1) rfl rfl (Nat.le_of_ble_eq_true rfl) (by decide) ⟨by omega, by omega⟩ ?_
      exact e_iret dX15_refusal_24 rfl (by omega) (by omega) (⟨by rw [rfA_8 k16], rfl⟩)
  · have k8 := jb_ne_f c8
    have t8 : ¬ ((1 ≤ q.getD 0 0 ∧ q.getD 0 0 ≤ 8) ∨ q.getD 0 0 = 11 ∨ q.getD 0 0 = 12 ∨ (15 ≤ q.getD 0 0 ∧ q.getD 0 0 ≤ 17) ∨ (20 ≤ q.getD 0 0 ∧ q.getD 0 0 ≤ 24) ∨ q.getD 0 0 = 43) := of_decide_eq_false k8
    refine e_iconst 12 (v := (nI 1)) dX15_refusal_11 rfl (by decide) ?_
    exact e_iret dX15_refusal_12 rfl (by omega) (by omega) (⟨by rw [show rfA s q = 1 by (rw [rfA, show shF q = 1 by (rw [shF, if_neg (by omega), if_neg (by omega), if_neg (by omega), if_neg (by omega), if_neg (by omega), if_neg (by omega), if_neg (by omega), if_neg (by omega), if_neg (by omega), if_neg (by omega), if_neg (by omega), if_neg (by omega), if_neg (by omega)])] <;> rfl)], rfl⟩)
