/-! the law: its loop -/
set_option maxRecDepth 20000 in
set_option maxHeartbeats 2000000 in
theorem l_law {z : Nat × Nat × (Nat → Int32)} {o m a3 : Nat} (hL3 : z.2.1 ≤ 3072) : ∀ (nn k t th ce sl : Nat) (g : GS) (zh : HD) (f : Nat → Int64) (h : eH), 600 - k < nn → 6 * k ≤ z.2.1 → okV (bnd t) g → okX g → 14 ≤ t → t ≤ 14 + 1001 * k → ce ≤ 1000 + 150 * k → sl ≤ 100000 + 12600 * k → stars [flo o g zh, rfo m g th, pt a3 (.inl (1, 1, .inr (.inl f)))] h → ES (PPL z) FFL mL_law 11 430 601024 7293034 23 [some (.ref z.1), some (.ref o), some (.ref m), some (.ref a3), some (.int (nI (6 * k))), none, none] [] h ce sl := by
  intro nn
  induction nn with
  | zero => intro k t th ce sl g zh f h hlt; exact absurd hlt (by omega)
  | succ nn ih =>
    intro k t th ce sl g zh f h hlt hk hv hx ht14 ht hce hsl hL
    refine s_iload 25 dL_law_23 rfl rfl ?_
    refine s_aload_n 26 dL_law_25 rfl rfl ?_
    refine l_slen 27 dL_law_26 rfl ?_
    refine s_bipush 29 (v := nI 6) dL_law_27 rfl (by decide) ?_
    refine s_isub 30 (v := nI z.2.1 - nI 6) dL_law_29 rfl rfl ?_
    have e9 := pk_sub_toInt (a := z.2.1) (b := 6) (by omega) (by decide)
    refine s_icmp_gt 1373 33 dL_law_30 rfl rfl (fun c => ?_) (fun c => ?_)
    · refine s_iconst 1374 (v := nI 1) dL_law_1373 rfl (by decide) ?_
      exact s_end dL_law_1374 (by omega) (by omega)
    · have hk6 : 6 * k + 6 ≤ z.2.1 := by
        rw [Int32.lt_iff_toInt_lt, e9, nI_toInt (by omega)] at c
        omega
      refine s_aload_n 34 dL_law_33 rfl rfl ?_
      refine s_iload 36 dL_law_34 rfl rfl ?_
      refine l_sld 37 dL_law_36 rfl (show 6 * k < z.2.1 by omega) hL3 ?_
      refine s_bipush 39 (v := nI 31) dL_law_37 rfl (by decide) ?_
      obtain ⟨j, hj, ej⟩ := pk_andE (z.2.2 (6 * k)) (m := nI 31) 5 (by decide)
      refine s_iand 40 (v := nI j) dL_law_39 rfl ej ?_
      have kk : ∀ (g9 : GS) (zh9 : HD) (t9 th9 ce9 sl9 : Nat) (f9 : Nat → Int64) (h9 : eH), okV (bnd t9) g9 → okX g9 → t ≤ t9 → t9 ≤ t + 1001 → ce9 ≤ ce + 150 → sl9 ≤ sl + 12600 → stars [flo o g9 zh9, rfo m g9 th9, pt a3 (.inl (1, 1, .inr (.inl f9)))] h9 → ES (PPL z) FFL mL_law 11 430 601024 7293034 1367 [some (.ref z.1), some (.ref o), some (.ref m), some (.ref a3), some (.int (nI (6 * k))), none, none] [] h9 ce9 sl9 := by
        intro g9 zh9 t9 th9 ce9 sl9 f9 h9 a1 a2 a3' a4 a5 a6 a7
        refine s_iinc 1370 (v := nI (6 * (k + 1))) (ls' := [some (.ref z.1), some (.ref o), some (.ref m), some (.ref a3), some (.int (nI (6 * (k + 1)))), none, none]) dL_law_1367 rfl rfl (by rw [show Int32.ofInt 6 = nI 6 by decide, nI_add]; exact congrArg nI (by omega)) (by decide) rfl ?_
        refine s_goto 23 dL_law_1370 rfl ?_
        have b1 : 600 - (k + 1) < nn := by omega
        have b2 : 6 * (k + 1) ≤ z.2.1 := by omega
        have b3 : 14 ≤ t9 := Nat.le_trans ht14 a3'
        have b4 : t9 ≤ 14 + 1001 * (k + 1) := by have q := Nat.le_trans a4 (Nat.add_le_add_right ht 1001); rw [Nat.mul_succ]; rw [Nat.add_assoc] at q; exact q
        have b5 : ce9 ≤ 1000 + 150 * (k + 1) := by have q := Nat.le_trans a5 (Nat.add_le_add_right hce 150); rw [Nat.mul_succ]; rw [Nat.add_assoc] at q; exact q
        have b6 : sl9 ≤ 100000 + 12600 * (k + 1) := by have q := Nat.le_trans a6 (Nat.add_le_add_right hsl 12600); rw [Nat.mul_succ]; rw [Nat.add_assoc] at q; exact q
        exact ih (k + 1) t9 th9 ce9 sl9 g9 zh9 f9 h9 b1 b2 a1 a2 b3 b4 b5 b6 a7
      rcases (show 28 < j ∨ j = 0 ∨ j = 1 ∨ j = 2 ∨ j = 3 ∨ j = 4 ∨ j = 5 ∨ j = 6 ∨ j = 7 ∨ j = 8 ∨ j = 9 ∨ j = 10 ∨ j = 11 ∨ j = 12 ∨ j = 13 ∨ j = 14 ∨ j = 15 ∨ j = 16 ∨ j = 17 ∨ j = 18 ∨ j = 19 ∨ j = 20 ∨ j = 21 ∨ j = 22 ∨ j = 23 ∨ j = 24 ∨ j = 25 ∨ j = 26 ∨ j = 27 ∨ j = 28 by omega) with s9 | s9 | s9 | s9 | s9 | s9 | s9 | s9 | s9 | s9 | s9 | s9 | s9 | s9 | s9 | s9 | s9 | s9 | s9 | s9 | s9 | s9 | s9 | s9 | s9 | s9 | s9 | s9 | s9 | s9
      · refine s_tableOut 1367 dL_law_40 (by rw [nI_toInt (by omega)]; omega) rfl ?_
        exact kk g zh t th ce sl f h hv hx (by omega) (by omega) (by omega) (by omega) hL
      · refine s_tableIn 172 (off := 132) dL_law_40 (by rw [nI_toInt (by omega)]; omega) (by rw [nI_toInt (by omega)]; omega) (by rw [s9]; decide) rfl ?_
        exact c_feed hL3 hk6 hv hx ht14 (by omega) (by omega) (by omega) kk hL
      · refine s_tableIn 245 (off := 205) dL_law_40 (by rw [nI_toInt (by omega)]; omega) (by rw [nI_toInt (by omega)]; omega) (by rw [s9]; decide) rfl ?_
        exact c_end hL3 hk6 hv hx ht14 (by omega) (by omega) (by omega) kk hL
      · refine s_tableIn 270 (off := 230) dL_law_40 (by rw [nI_toInt (by omega)]; omega) (by rw [nI_toInt (by omega)]; omega) (by rw [s9]; decide) rfl ?_
        exact c_sum hL3 hk6 hv hx ht14 (by omega) (by omega) (by omega) kk hL
      · refine s_tableIn 283 (off := 243) dL_law_40 (by rw [nI_toInt (by omega)]; omega) (by rw [nI_toInt (by omega)]; omega) (by rw [s9]; decide) rfl ?_
        exact c_device hL3 hk6 hv hx ht14 (by omega) (by omega) (by omega) kk hL
      · refine s_tableIn 320 (off := 280) dL_law_40 (by rw [nI_toInt (by omega)]; omega) (by rw [nI_toInt (by omega)]; omega) (by rw [s9]; decide) rfl ?_
        exact c_bank hL3 hk6 hv hx ht14 (by omega) (by omega) (by omega) kk hL
      · refine s_tableIn 381 (off := 341) dL_law_40 (by rw [nI_toInt (by omega)]; omega) (by rw [nI_toInt (by omega)]; omega) (by rw [s9]; decide) rfl ?_
        exact c_put hL3 hk6 hv hx ht14 (by omega) (by omega) (by omega) kk hL
      · refine s_tableIn 442 (off := 402) dL_law_40 (by rw [nI_toInt (by omega)]; omega) (by rw [nI_toInt (by omega)]; omega) (by rw [s9]; decide) rfl ?_
        exact c_get hL3 hk6 hv hx ht14 (by omega) (by omega) (by omega) kk hL
      · refine s_tableIn 491 (off := 451) dL_law_40 (by rw [nI_toInt (by omega)]; omega) (by rw [nI_toInt (by omega)]; omega) (by rw [s9]; decide) rfl ?_
        exact c_limit hL3 hk6 hv hx ht14 (by omega) (by omega) (by omega) kk hL
      · refine s_tableIn 564 (off := 524) dL_law_40 (by rw [nI_toInt (by omega)]; omega) (by rw [nI_toInt (by omega)]; omega) (by rw [s9]; decide) rfl ?_
        exact c_file hL3 hk6 hv hx ht14 (by omega) (by omega) (by omega) kk hL
      · refine s_tableIn 613 (off := 573) dL_law_40 (by rw [nI_toInt (by omega)]; omega) (by rw [nI_toInt (by omega)]; omega) (by rw [s9]; decide) rfl ?_
        exact c_record hL3 hk6 hv hx ht14 (by omega) (by omega) (by omega) kk hL
      · refine s_tableIn 662 (off := 622) dL_law_40 (by rw [nI_toInt (by omega)]; omega) (by rw [nI_toInt (by omega)]; omega) (by rw [s9]; decide) rfl ?_
        exact c_queue hL3 hk6 hv hx ht14 (by omega) (by omega) (by omega) kk hL
      · refine s_tableIn 699 (off := 659) dL_law_40 (by rw [nI_toInt (by omega)]; omega) (by rw [nI_toInt (by omega)]; omega) (by rw [s9]; decide) rfl ?_
        exact c_push hL3 hk6 hv hx ht14 (by omega) (by omega) (by omega) kk hL
      · refine s_tableIn 748 (off := 708) dL_law_40 (by rw [nI_toInt (by omega)]; omega) (by rw [nI_toInt (by omega)]; omega) (by rw [s9]; decide) rfl ?_
        exact c_name hL3 hk6 hv hx ht14 (by omega) (by omega) (by omega) kk hL
      · refine s_tableIn 785 (off := 745) dL_law_40 (by rw [nI_toInt (by omega)]; omega) (by rw [nI_toInt (by omega)]; omega) (by rw [s9]; decide) rfl ?_
        exact c_rule hL3 hk6 hv hx ht14 (by omega) (by omega) (by omega) kk hL
      · refine s_tableIn 858 (off := 818) dL_law_40 (by rw [nI_toInt (by omega)]; omega) (by rw [nI_toInt (by omega)]; omega) (by rw [s9]; decide) rfl ?_
        exact c_busy hL3 hk6 hv hx ht14 (by omega) (by omega) (by omega) kk hL
      · refine s_tableIn 895 (off := 855) dL_law_40 (by rw [nI_toInt (by omega)]; omega) (by rw [nI_toInt (by omega)]; omega) (by rw [s9]; decide) rfl ?_
        exact c_serve hL3 hk6 hv hx ht14 (by omega) (by omega) (by omega) kk hL
      · refine s_tableIn 920 (off := 880) dL_law_40 (by rw [nI_toInt (by omega)]; omega) (by rw [nI_toInt (by omega)]; omega) (by rw [s9]; decide) rfl ?_
        exact c_answer hL3 hk6 hv hx ht14 (by omega) (by omega) (by omega) kk hL
      · refine s_tableIn 945 (off := 905) dL_law_40 (by rw [nI_toInt (by omega)]; omega) (by rw [nI_toInt (by omega)]; omega) (by rw [s9]; decide) rfl ?_
        exact c_settings hL3 hk6 hv hx ht14 (by omega) (by omega) (by omega) kk hL
      · refine s_tableIn 994 (off := 954) dL_law_40 (by rw [nI_toInt (by omega)]; omega) (by rw [nI_toInt (by omega)]; omega) (by rw [s9]; decide) rfl ?_
        exact c_request hL3 hk6 hv hx ht14 (by omega) (by omega) (by omega) kk hL
      · refine s_tableIn 1019 (off := 979) dL_law_40 (by rw [nI_toInt (by omega)]; omega) (by rw [nI_toInt (by omega)]; omega) (by rw [s9]; decide) rfl ?_
        exact c_scan hL3 hk6 hv hx ht14 (by omega) (by omega) (by omega) kk hL
      · refine s_tableIn 1056 (off := 1016) dL_law_40 (by rw [nI_toInt (by omega)]; omega) (by rw [nI_toInt (by omega)]; omega) (by rw [s9]; decide) rfl ?_
        exact c_harm hL3 hk6 hv hx ht14 (by omega) (by omega) (by omega) kk hL
      · refine s_tableIn 1093 (off := 1053) dL_law_40 (by rw [nI_toInt (by omega)]; omega) (by rw [nI_toInt (by omega)]; omega) (by rw [s9]; decide) rfl ?_
        by_cases hx9 : inI (z.2.2 (6 * k + 1)) (nI 1) (nI 1000) = true
        · obtain ⟨nt, e1, na, nb⟩ := inI_nat (by decide) (by decide) hx9
          exact c_tick_i hL3 hk6 hv hx ht14 (by omega) (by omega) (by omega) e1 na nb kk hL
        · exact c_tick_x hL3 hk6 hv hx ht14 (by omega) (by omega) (by omega) (by simpa using hx9) kk hL
      · refine s_tableIn 1149 (off := 1109) dL_law_40 (by rw [nI_toInt (by omega)]; omega) (by rw [nI_toInt (by omega)]; omega) (by rw [s9]; decide) rfl ?_
        exact c_result hL3 hk6 hv hx ht14 (by omega) (by omega) (by omega) kk hL
      · refine s_tableIn 1174 (off := 1134) dL_law_40 (by rw [nI_toInt (by omega)]; omega) (by rw [nI_toInt (by omega)]; omega) (by rw [s9]; decide) rfl ?_
        have hl3 : (hdS g).1.length ≤ 253 := rs_253 hv.1.2.2.2.1
        by_cases h00 : 0 < g.2.2.2.2.1.2.2.1.length
        · by_cases hx9 : dIn (hdS g).1.length (z.2.2 (6 * k + 1)) = true
          · obtain ⟨kd, e1, hkd⟩ := dIn_nat (by omega) hx9
            exact c_data_i hL3 hk6 hv hx ht14 (by omega) (by omega) (by omega) e1 h00 hkd kk hL
          · exact c_data_x hL3 hk6 hv hx ht14 (by omega) (by omega) (by omega) (Or.inr (by simpa using hx9)) kk hL
        · exact c_data_x hL3 hk6 hv hx ht14 (by omega) (by omega) (by omega) (Or.inl (by omega)) kk hL
      · refine s_tableIn 1230 (off := 1190) dL_law_40 (by rw [nI_toInt (by omega)]; omega) (by rw [nI_toInt (by omega)]; omega) (by rw [s9]; decide) rfl ?_
        exact c_take hL3 hk6 hv hx ht14 (by omega) (by omega) (by omega) kk hL
      · refine s_tableIn 1243 (off := 1203) dL_law_40 (by rw [nI_toInt (by omega)]; omega) (by rw [nI_toInt (by omega)]; omega) (by rw [s9]; decide) rfl ?_
        exact c_state hL3 hk6 hv hx ht14 (by omega) (by omega) (by omega) kk hL
      · refine s_tableIn 1268 (off := 1228) dL_law_40 (by rw [nI_toInt (by omega)]; omega) (by rw [nI_toInt (by omega)]; omega) (by rw [s9]; decide) rfl ?_
        exact c_counter hL3 hk6 hv hx ht14 (by omega) (by omega) (by omega) kk hL
      · refine s_tableIn 1305 (off := 1265) dL_law_40 (by rw [nI_toInt (by omega)]; omega) (by rw [nI_toInt (by omega)]; omega) (by rw [s9]; decide) rfl ?_
        exact c_event hL3 hk6 hv hx ht14 (by omega) (by omega) (by omega) kk hL
      · refine s_tableIn 1342 (off := 1302) dL_law_40 (by rw [nI_toInt (by omega)]; omega) (by rw [nI_toInt (by omega)]; omega) (by rw [s9]; decide) rfl ?_
        exact c_sent hL3 hk6 hv hx ht14 (by omega) (by omega) (by omega) kk hL
